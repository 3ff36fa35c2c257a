/-! the reference: rot, lay, mix, reckon -/
def mo (ad : Nat → Nat) (tC tk nu gC rC fl rS fS : Int32) := ob 8 [.ref (ad 1), .ref (ad 2), .ref (ad 3), .ref (ad 4), .ref (ad 5), .int tC, .ref (ad 6), .ref (ad 7), .int tk, .int nu, .ref (ad 8), .int gC, .ref (ad 9), .ref (ad 10), .int rC, .int fl, .ref (ad 11), .int rS, .ref (ad 12), .ref (ad 13), .ref (ad 14), .ref (ad 15), .ref (ad 16), .ref (ad 17), .int fS]
theorem shl8 (n : Nat) : nI n <<< (nI 8 &&& 31) = nI (n * 256) := by
  apply Int32.toBitVec_inj.mp
  rw [Int32.toBitVec_shiftLeft, BitVec.shiftLeft_eq', s_l 8 (by decide)]
  show BitVec.ofNat 32 n <<< 8 = BitVec.ofNat 32 (n * 256)
  apply BitVec.eq_of_toNat_eq
  rw [BitVec.toNat_shiftLeft, BitVec.toNat_ofNat, BitVec.toNat_ofNat, Nat.shiftLeft_eq, Nat.mod_mul_mod]
theorem wb9_m (x y : Int32) : x * nI 256 + (y &&& nI 255) = wb9 x y := by
  obtain ⟨a, -, rfl⟩ := wb_of32 x
  obtain ⟨b, -, rfl⟩ := wb_of32 y
  unfold wb9
  have e : nI b &&& nI 255 = nI (b % 256) := fa_mask b 8
  have h := fa_or_sum (a := b % 256) (k := 8) a (Nat.mod_lt _ (by decide))
  rw [e, pk_mul, nI_add, shl8, Nat.mul_comm a 256]
  exact h.symm
theorem bt_low {x y : Int32} (h : ∀ i, i < 8 → bt x i = bt y i) : x.toInt8 = y.toInt8 := by
  rw [← fa_byte_low x, ← fa_byte_low y]
  congr 1
  apply b_ext
  intro i hi
  rw [b_and, b_and, b_255]
  by_cases z : i < 8
  · rw [h i z]
  · simp [z]
theorem sgn_us {x : Int32} {s : Nat} (hs : s ≤ 24) : (x >>> (nI s &&& 31)).toInt8 = (ush9 x (nI s)).toInt8 := by
  apply bt_low
  intro i hi
  unfold ush9
  rw [b_sshr s (by omega) x (by omega), b_ushr s (by omega) x, if_pos (by omega)]
theorem nI_shr {n s : Nat} (hn : n < 2 ^ 31) (hs : s < 32) : nI n >>> (nI s &&& 31) = nI (n / 2 ^ s) := pk_shrN hn _ s (s_l s hs)
theorem nI_idem {n : Nat} : (nI n).toInt8 = (nI (n % 256)).toInt8 := n8_mod n
set_option maxHeartbeats 4000000 in
set_option maxRecDepth 20000 in
theorem m_rot {l : Launch} {g : cx_G} {w : wd_T} {x p : Int32} : Mt l g yX8_rot cX8_rot 2 (some .int) 0 0 0 w [.int x, .int p] (fun v w' => v = some (.int (rot9 x p)) ∧ w = w') := by
  refine mt_of RX8 "rot" rfl rfl (by decide) (Nat.le_of_ble_eq_true rfl) [(0, .int x), (1, .int p)] rfl ?_
  intro k hkl C hin
  subst hkl
  refine r_iload_n (q := 1) C 0 dX8_rot_0 rfl rfl ?_
  refine r_iload_n (q := 2) C 1 dX8_rot_1 rfl rfl ?_
  refine r_iushr (q := 3) C dX8_rot_2 rfl ?_
  refine r_iload_n (q := 4) C 0 dX8_rot_3 rfl rfl ?_
  refine r_bipush (q := 6) C (nI 32) dX8_rot_4 (by decide) rfl ?_
  refine r_iload_n (q := 7) C 1 dX8_rot_6 rfl rfl ?_
  refine r_isub (q := 8) C dX8_rot_7 rfl ?_
  refine r_ishl (q := 9) C dX8_rot_8 rfl ?_
  refine r_ior (q := 10) C dX8_rot_9 rfl ?_
  exact r_iret C rfl (by decide) (by decide) dX8_rot_10 ⟨rfl, rfl⟩

set_option maxHeartbeats 4000000 in
set_option maxRecDepth 20000 in
theorem m_lay {l : Launch} {g : cx_G} {w : wd_T} {m0 : Nat} {ad : Nat → Nat} {tC tk nu gC rC fl fS : Int32} {n : Nat} {rw : Nat → Int32} {x : Int32} (h0 : w 0 = some (m0, mo ad tC tk nu gC rC fl (nI n) fS)) (h11 : w 11 = some (ad 11, aB g 192 rw)) (hn : n < 192) : Mt l g yX8_lay cX8_lay 2 none 0 0 0 w [.ref m0, .int x] (fun v w' => v = none ∧ w' 0 = some (m0, mo ad tC tk nu gC rC fl (nI (n + 1)) fS) ∧ w' 11 = some (ad 11, aB g 192 (upd rw n x.toInt8.toInt32)) ∧ ∀ t, t ≠ 0 → t ≠ 11 → w' t = w t) := by
  refine mt_of RX8 "lay" rfl rfl (by decide) (Nat.le_of_ble_eq_true rfl) [(0, .ref m0), (1, .int x)] rfl ?_
  intro k hkl C hin
  subst hkl
  refine r_aload_n (q := 1) C 0 dX8_lay_0 rfl rfl ?_
  refine r_get (q := 4) (t := 0) C koX8 h0 16 (by decide) q716 rfl rfl dX8_lay_1 rfl ?_
  refine r_aload_n (q := 5) C 0 dX8_lay_4 rfl rfl ?_
  refine r_get (q := 8) (t := 0) C koX8 h0 17 (by decide) q717 rfl rfl dX8_lay_5 rfl ?_
  refine r_iload_n (q := 9) C 1 dX8_lay_8 rfl rfl ?_
  refine r_i2b (q := 10) C dX8_lay_9 rfl ?_
  refine r_bast8 (q := 11) (t := 11) (w' := wd_set w 11 (ad 11) (aB g 192 (upd rw n x.toInt8.toInt32))) C h11 n rfl (by omega) (by decide) dX8_lay_10 rfl rfl ?_
  refine r_aload_n (q := 12) C 0 dX8_lay_11 rfl rfl ?_
  refine r_dup (q := 13) C dX8_lay_12 rfl rfl ?_
  refine r_get (q := 16) (t := 0) C koX8 ((wd_ne (by decide)).trans h0) 17 (by decide) q717 rfl rfl dX8_lay_13 rfl ?_
  refine r_iconst (q := 17) C (nI 1) dX8_lay_16 (by decide) rfl ?_
  refine r_iadd (q := 18) C dX8_lay_17 rfl ?_
  refine r_ti (show ((nI n) + (nI 1) : Int32) = nI (n + 1) from nI_add n 1) ?_
  refine r_put (q := 21) (t := 0) (w' := wd_set (wd_set w 11 (ad 11) (aB g 192 (upd rw n x.toInt8.toInt32))) 0 m0 (mo ad tC tk nu gC rC fl (nI (n + 1)) fS)) C koX8 ((wd_ne (by decide)).trans h0) 17 (by decide) q717 rfl rfl rfl rfl (Nat.le_of_ble_eq_true rfl) dX8_lay_18 rfl rfl ?_
  exact r_vret C rfl (by decide) (by decide) dX8_lay_21 ⟨rfl, wd_eq, ((wd_ne (by decide)).trans wd_eq), fun t h1 h2 => by simp only [wd_set, if_neg h1, if_neg h2]⟩

set_option maxHeartbeats 4000000 in
set_option maxRecDepth 20000 in
theorem m_mix {l : Launch} {g : cx_G} {w : wd_T} {m0 : Nat} {ad : Nat → Nat} {tC tk nu gC rC fl rS fS : Int32} {cu rw st nw wd : Nat → Int32} {bk : Nat} (h0 : w 0 = some (m0, mo ad tC tk nu gC rC fl rS fS)) (h1 : w 1 = some (ad 1, aI g 64 cu)) (h11 : w 11 = some (ad 11, aB g 192 rw)) (h13 : w 13 = some (ad 13, aI g 8 st)) (h14 : w 14 = some (ad 14, aI g 8 nw)) (h15 : w 15 = some (ad 15, aI g 64 wd)) (hb : bk + 64 ≤ 192) (hcu : ∀ j, j < 64 → cu j = kCu j) : Mt l g yX8_mix cX8_mix 8 none 1 0 0 w [.ref m0, .int (nI bk)] (fun v w' => v = none ∧ (∃ st' nw' wd' : Nat → Int32, w' 13 = some (ad 13, aI g 8 st') ∧ w' 14 = some (ad 14, aI g 8 nw') ∧ w' 15 = some (ad 15, aI g 64 wd') ∧ ∀ j, j < 8 → st' j = cmp9 rw bk st j) ∧ Fr w w' 13 16) := by
  refine mt_of RX8 "mix" rfl rfl (by decide) (Nat.le_of_ble_eq_true rfl) [(0, .ref m0), (1, .int (nI bk))] rfl ?_
  intro k hkl C hin
  subst hkl
  have loop4 : ∀ (r t : Nat) (st1 nw1 wd1 : Nat → Int32) (w1 : wd_T), t + r = 8 → (w1 13 = some (ad 13, aI g 8 st1)) → (w1 14 = some (ad 14, aI g 8 nw1)) → (w1 15 = some (ad 15, aI g 64 wd1)) → (∀ j, j < 8 → st1 j = if j < t then st j + nw1 j else st j) → (∀ j, j < 8 → nw1 j = rds (sc9 rw bk) 64 st j) → (Fr w w1 13 16) → V g k 8 w1 0 0 (kQ g k (fun v w' => v = none ∧ (∃ st' nw' wd' : Nat → Int32, w' 13 = some (ad 13, aI g 8 st') ∧ w' 14 = some (ad 14, aI g 8 nw') ∧ w' 15 = some (ad 15, aI g 64 wd') ∧ ∀ j, j < 8 → st' j = cmp9 rw bk st j) ∧ Fr w w' 13 16) 0 0) 398 [(2, .int (nI t)), (0, .ref m0), (1, .int (nI bk))] [] := by
    intro r
    induction r with
    | zero =>
      intro t st1 nw1 wd1 w1 hi g13 g14 g15 hst hnw gf
      refine r_iload_n (q := 399) C 0 dX8_mix_398 rfl rfl ?_
      refine r_bipush (q := 401) C (nI 8) dX8_mix_399 (by decide) rfl ?_
      refine r_icmp_ge_t (tgt := 429) C dX8_mix_401 (by decide) ((nI_leI (a := 8) (b := t) (by omega) (by omega)).mpr (by omega)) ?_
      obtain rfl : t = 8 := by omega
      exact r_vret C rfl (by decide) (by decide) dX8_mix_429 ⟨rfl, ⟨_, _, _, g13, g14, g15, fun j hj => by rw [hst j hj, if_pos hj]; unfold cmp9; rw [hnw j hj]⟩, gf⟩
    | succ r ih =>
      intro t st1 nw1 wd1 w1 hi g13 g14 g15 hst hnw gf
      refine r_iload_n (q := 399) C 0 dX8_mix_398 rfl rfl ?_
      refine r_bipush (q := 401) C (nI 8) dX8_mix_399 (by decide) rfl ?_
      refine r_icmp_ge_f (q := 404) (tgt := 429) C dX8_mix_401 (by decide) rfl (fun z => absurd ((nI_leI (a := 8) (b := t) (by omega) (by omega)).mp z) (by omega)) ?_
      refine r_aload_n (q := 405) C 1 dX8_mix_404 rfl rfl ?_
      refine r_get (q := 408) (t := 0) C koX8 ((gf 0 (by decide)).trans h0) 19 (by decide) q719 rfl rfl dX8_mix_405 rfl ?_
      refine r_iload_n (q := 409) C 0 dX8_mix_408 rfl rfl ?_
      refine r_aload_n (q := 410) C 1 dX8_mix_409 rfl rfl ?_
      refine r_get (q := 413) (t := 0) C koX8 ((gf 0 (by decide)).trans h0) 19 (by decide) q719 rfl rfl dX8_mix_410 rfl ?_
      refine r_iload_n (q := 414) C 0 dX8_mix_413 rfl rfl ?_
      refine r_iald (q := 415) (t := 13) C g13 t rfl (by omega) (by decide) dX8_mix_414 rfl ?_
      refine r_aload_n (q := 416) C 1 dX8_mix_415 rfl rfl ?_
      refine r_get (q := 419) (t := 0) C koX8 ((gf 0 (by decide)).trans h0) 20 (by decide) q720 rfl rfl dX8_mix_416 rfl ?_
      refine r_iload_n (q := 420) C 0 dX8_mix_419 rfl rfl ?_
      refine r_iald (q := 421) (t := 14) C g14 t rfl (by omega) (by decide) dX8_mix_420 rfl ?_
      refine r_iadd (q := 422) C dX8_mix_421 rfl ?_
      refine r_iast (q := 423) (t := 13) (w' := wd_set w1 13 (ad 13) (aI g 8 (upd st1 t ((st1 t) + (nw1 t))))) C g13 t rfl (by omega) (by decide) dX8_mix_422 rfl rfl ?_
      refine r_iinc (q := 426) (v := nI (t + 1)) (lv' := [(2, .int (nI (t + 1))), (0, .ref m0), (1, .int (nI bk))]) C 0 dX8_mix_423 rfl (nI_1 t) (by decide) rfl rfl ?_
      refine r_goto (tgt := 398) C dX8_mix_426 (by decide) ?_
      refine r_sub (lv' := [(2, .int (nI (t + 1))), (0, .ref m0), (1, .int (nI bk))]) [0, 1, 2] rfl ?_
      refine ih (t + 1) _ _ _ _ (by omega) wd_eq ((wd_ne (by decide)).trans g14) ((wd_ne (by decide)).trans g15) (fun j hj => ?_) hnw (gf.trans (Fr.set (by decide) (by decide)))
      unfold upd
      by_cases z : j = t
      · subst z
        rw [if_pos rfl, if_pos (by omega), hst j hj, if_neg (by omega)]
      · rw [if_neg z, hst j hj]
        by_cases y : j < t
        · rw [if_pos y, if_pos (by omega)]
        · rw [if_neg y, if_neg (by omega)]
  have loop3 : ∀ (r t : Nat) (st1 nw1 wd1 : Nat → Int32) (w1 : wd_T), t + r = 64 → (w1 13 = some (ad 13, aI g 8 st1)) → (w1 14 = some (ad 14, aI g 8 nw1)) → (w1 15 = some (ad 15, aI g 64 wd1)) → (∀ j, j < 8 → st1 j = st j) → (∀ j, j < 8 → nw1 j = rds (sc9 rw bk) t st j) → (∀ j, j < 64 → wd1 j = sc9 rw bk j) → (Fr w w1 13 16) → V g k 8 w1 0 0 (kQ g k (fun v w' => v = none ∧ (∃ st' nw' wd' : Nat → Int32, w' 13 = some (ad 13, aI g 8 st') ∧ w' 14 = some (ad 14, aI g 8 nw') ∧ w' 15 = some (ad 15, aI g 64 wd') ∧ ∀ j, j < 8 → st' j = cmp9 rw bk st j) ∧ Fr w w' 13 16) 0 0) 189 [(2, .int (nI t)), (0, .ref m0), (1, .int (nI bk))] [] := by
    intro r
    induction r with
    | zero =>
      intro t st1 nw1 wd1 w1 hi g13 g14 g15 hst hnw hwd gf
      refine r_iload_n (q := 190) C 0 dX8_mix_189 rfl rfl ?_
      refine r_bipush (q := 192) C (nI 64) dX8_mix_190 (by decide) rfl ?_
      refine r_icmp_ge_t (tgt := 396) C dX8_mix_192 (by decide) ((nI_leI (a := 64) (b := t) (by omega) (by omega)).mpr (by omega)) ?_
      obtain rfl : t = 64 := by omega
      refine r_iconst (q := 397) C (nI 0) dX8_mix_396 (by decide) rfl ?_
      refine r_istore_n (q := 398) (lv' := [(2, .int (nI 0)), (0, .ref m0), (1, .int (nI bk))]) C dX8_mix_397 (by decide) rfl rfl ?_
      refine r_sub (lv' := [(2, .int (nI 0)), (0, .ref m0), (1, .int (nI bk))]) [0, 1, 2] rfl ?_
      exact loop4 8 0 st1 nw1 wd1 w1 (by omega) g13 g14 g15 (fun j hj => by rw [hst j hj, if_neg (by omega)]) hnw gf
    | succ r ih =>
      intro t st1 nw1 wd1 w1 hi g13 g14 g15 hst hnw hwd gf
      refine r_iload_n (q := 190) C 0 dX8_mix_189 rfl rfl ?_
      refine r_bipush (q := 192) C (nI 64) dX8_mix_190 (by decide) rfl ?_
      refine r_icmp_ge_f (q := 195) (tgt := 396) C dX8_mix_192 (by decide) rfl (fun z => absurd ((nI_leI (a := 64) (b := t) (by omega) (by omega)).mp z) (by omega)) ?_
      refine r_aload_n (q := 196) C 1 dX8_mix_195 rfl rfl ?_
      refine r_get (q := 199) (t := 0) C koX8 ((gf 0 (by decide)).trans h0) 20 (by decide) q720 rfl rfl dX8_mix_196 rfl ?_
      refine r_iconst (q := 200) C (nI 4) dX8_mix_199 (by decide) rfl ?_
      refine r_iald (q := 201) (t := 14) C g14 4 rfl (by decide) (by decide) dX8_mix_200 rfl ?_
      refine r_istore_n (q := 202) (lv' := [(3, .int (nw1 4)), (2, .int (nI t)), (0, .ref m0), (1, .int (nI bk))]) C dX8_mix_201 (by decide) rfl rfl ?_
      refine r_aload_n (q := 203) C 2 dX8_mix_202 rfl rfl ?_
      refine r_get (q := 206) (t := 0) C koX8 ((gf 0 (by decide)).trans h0) 20 (by decide) q720 rfl rfl dX8_mix_203 rfl ?_
      refine r_iconst (q := 207) C (nI 0) dX8_mix_206 (by decide) rfl ?_
      refine r_iald (q := 208) (t := 14) C g14 0 rfl (by decide) (by decide) dX8_mix_207 rfl ?_
      refine r_istore (q := 210) (lv' := [(4, .int (nw1 0)), (3, .int (nw1 4)), (2, .int (nI t)), (0, .ref m0), (1, .int (nI bk))]) C dX8_mix_208 (by decide) rfl rfl ?_
      refine r_aload_n (q := 211) C 3 dX8_mix_210 rfl rfl ?_
      refine r_get (q := 214) (t := 0) C koX8 ((gf 0 (by decide)).trans h0) 20 (by decide) q720 rfl rfl dX8_mix_211 rfl ?_
      refine r_bipush (q := 216) C (nI 7) dX8_mix_214 (by decide) rfl ?_
      refine r_iald (q := 217) (t := 14) C g14 7 rfl (by decide) (by decide) dX8_mix_216 rfl ?_
      refine r_iload_n (q := 218) C 1 dX8_mix_217 rfl rfl ?_
      refine r_bipush (q := 220) C (nI 6) dX8_mix_218 (by decide) rfl ?_
      refine r_callS (q := 223) (As := [.int (nw1 4), .int (nI 6)]) (st := [.int (nw1 7)]) C (m_rot) q839 q837 q838 q9 ⟨by decide, by decide⟩ (show (parseMethodDescriptor yX8_rot.desc).map (fun d => d.parameters.length) = some 2 by decide +kernel) (by decide) (by decide) (by decide) (by decide) (Nat.le_of_ble_eq_true rfl) rfl dX8_mix_220 rfl ?_
      rintro v9 w3 ⟨rfl, rfl⟩
      show V g k 8 w1 0 0 (kQ g k (fun v w' => v = none ∧ (∃ st' nw' wd' : Nat → Int32, w' 13 = some (ad 13, aI g 8 st') ∧ w' 14 = some (ad 14, aI g 8 nw') ∧ w' 15 = some (ad 15, aI g 64 wd') ∧ ∀ j, j < 8 → st' j = cmp9 rw bk st j) ∧ Fr w w' 13 16) 0 0) 223 [(4, .int (nw1 0)), (3, .int (nw1 4)), (2, .int (nI t)), (0, .ref m0), (1, .int (nI bk))] [.int (rot9 (nw1 4) (nI 6)), .int (nw1 7)]
      refine r_iload_n (q := 224) C 1 dX8_mix_223 rfl rfl ?_
      refine r_bipush (q := 226) C (nI 11) dX8_mix_224 (by decide) rfl ?_
      refine r_callS (q := 229) (As := [.int (nw1 4), .int (nI 11)]) (st := [.int (rot9 (nw1 4) (nI 6)), .int (nw1 7)]) C (m_rot) q839 q837 q838 q9 ⟨by decide, by decide⟩ (show (parseMethodDescriptor yX8_rot.desc).map (fun d => d.parameters.length) = some 2 by decide +kernel) (by decide) (by decide) (by decide) (by decide) (Nat.le_of_ble_eq_true rfl) rfl dX8_mix_226 rfl ?_
      rintro v9 w4 ⟨rfl, rfl⟩
      show V g k 8 w1 0 0 (kQ g k (fun v w' => v = none ∧ (∃ st' nw' wd' : Nat → Int32, w' 13 = some (ad 13, aI g 8 st') ∧ w' 14 = some (ad 14, aI g 8 nw') ∧ w' 15 = some (ad 15, aI g 64 wd') ∧ ∀ j, j < 8 → st' j = cmp9 rw bk st j) ∧ Fr w w' 13 16) 0 0) 229 [(4, .int (nw1 0)), (3, .int (nw1 4)), (2, .int (nI t)), (0, .ref m0), (1, .int (nI bk))] [.int (rot9 (nw1 4) (nI 11)), .int (rot9 (nw1 4) (nI 6)), .int (nw1 7)]
      refine r_ixor (q := 230) C dX8_mix_229 rfl ?_
      refine r_iload_n (q := 231) C 1 dX8_mix_230 rfl rfl ?_
      refine r_bipush (q := 233) C (nI 25) dX8_mix_231 (by decide) rfl ?_
      refine r_callS (q := 236) (As := [.int (nw1 4), .int (nI 25)]) (st := [.int ((rot9 (nw1 4) (nI 6)) ^^^ (rot9 (nw1 4) (nI 11))), .int (nw1 7)]) C (m_rot) q839 q837 q838 q9 ⟨by decide, by decide⟩ (show (parseMethodDescriptor yX8_rot.desc).map (fun d => d.parameters.length) = some 2 by decide +kernel) (by decide) (by decide) (by decide) (by decide) (Nat.le_of_ble_eq_true rfl) rfl dX8_mix_233 rfl ?_
      rintro v9 w5 ⟨rfl, rfl⟩
      show V g k 8 w1 0 0 (kQ g k (fun v w' => v = none ∧ (∃ st' nw' wd' : Nat → Int32, w' 13 = some (ad 13, aI g 8 st') ∧ w' 14 = some (ad 14, aI g 8 nw') ∧ w' 15 = some (ad 15, aI g 64 wd') ∧ ∀ j, j < 8 → st' j = cmp9 rw bk st j) ∧ Fr w w' 13 16) 0 0) 236 [(4, .int (nw1 0)), (3, .int (nw1 4)), (2, .int (nI t)), (0, .ref m0), (1, .int (nI bk))] [.int (rot9 (nw1 4) (nI 25)), .int ((rot9 (nw1 4) (nI 6)) ^^^ (rot9 (nw1 4) (nI 11))), .int (nw1 7)]
      refine r_ixor (q := 237) C dX8_mix_236 rfl ?_
      refine r_iadd (q := 238) C dX8_mix_237 rfl ?_
      refine r_iload_n (q := 239) C 1 dX8_mix_238 rfl rfl ?_
      refine r_aload_n (q := 240) C 3 dX8_mix_239 rfl rfl ?_
      refine r_get (q := 243) (t := 0) C koX8 ((gf 0 (by decide)).trans h0) 20 (by decide) q720 rfl rfl dX8_mix_240 rfl ?_
      refine r_iconst (q := 244) C (nI 5) dX8_mix_243 (by decide) rfl ?_
      refine r_iald (q := 245) (t := 14) C g14 5 rfl (by decide) (by decide) dX8_mix_244 rfl ?_
      refine r_iand (q := 246) C dX8_mix_245 rfl ?_
      refine r_iload_n (q := 247) C 1 dX8_mix_246 rfl rfl ?_
      refine r_iconst (q := 248) C ((-1)) dX8_mix_247 (by decide) rfl ?_
      refine r_ixor (q := 249) C dX8_mix_248 rfl ?_
      refine r_aload_n (q := 250) C 3 dX8_mix_249 rfl rfl ?_
      refine r_get (q := 253) (t := 0) C koX8 ((gf 0 (by decide)).trans h0) 20 (by decide) q720 rfl rfl dX8_mix_250 rfl ?_
      refine r_bipush (q := 255) C (nI 6) dX8_mix_253 (by decide) rfl ?_
      refine r_iald (q := 256) (t := 14) C g14 6 rfl (by decide) (by decide) dX8_mix_255 rfl ?_
      refine r_iand (q := 257) C dX8_mix_256 rfl ?_
      refine r_ixor (q := 258) C dX8_mix_257 rfl ?_
      refine r_iadd (q := 259) C dX8_mix_258 rfl ?_
      refine r_aload_n (q := 260) C 3 dX8_mix_259 rfl rfl ?_
      refine r_get (q := 263) (t := 0) C koX8 ((gf 0 (by decide)).trans h0) 0 (by decide) q700 rfl rfl dX8_mix_260 rfl ?_
      refine r_iload_n (q := 264) C 2 dX8_mix_263 rfl rfl ?_
      refine r_iald (q := 265) (t := 1) C ((gf 1 (by decide)).trans h1) t rfl (by omega) (by decide) dX8_mix_264 rfl ?_
      refine r_iadd (q := 266) C dX8_mix_265 rfl ?_
      refine r_aload_n (q := 267) C 3 dX8_mix_266 rfl rfl ?_
      refine r_get (q := 270) (t := 0) C koX8 ((gf 0 (by decide)).trans h0) 21 (by decide) q721 rfl rfl dX8_mix_267 rfl ?_
      refine r_iload_n (q := 271) C 2 dX8_mix_270 rfl rfl ?_
      refine r_iald (q := 272) (t := 15) C g15 t rfl (by omega) (by decide) dX8_mix_271 rfl ?_
      refine r_iadd (q := 273) C dX8_mix_272 rfl ?_
      refine r_ti (show (((((nw1 7) + (((rot9 (nw1 4) (nI 6)) ^^^ (rot9 (nw1 4) (nI 11))) ^^^ (rot9 (nw1 4) (nI 25)))) + (((nw1 4) &&& (nw1 5)) ^^^ (((nw1 4) ^^^ (-1)) &&& (nw1 6)))) + (cu t)) + (wd1 t) : Int32) = u9 (kCu t) (sc9 rw bk t) nw1 from by rw [hcu t (by omega), hwd t (by omega)]; rfl) ?_
      refine r_istore (q := 275) (lv' := [(5, .int (u9 (kCu t) (sc9 rw bk t) nw1)), (4, .int (nw1 0)), (3, .int (nw1 4)), (2, .int (nI t)), (0, .ref m0), (1, .int (nI bk))]) C dX8_mix_273 (by decide) rfl rfl ?_
      refine r_iload (q := 277) C 1 dX8_mix_275 rfl rfl ?_
      refine r_iconst (q := 278) C (nI 2) dX8_mix_277 (by decide) rfl ?_
      refine r_callS (q := 281) (As := [.int (nw1 0), .int (nI 2)]) (st := []) C (m_rot) q839 q837 q838 q9 ⟨by decide, by decide⟩ (show (parseMethodDescriptor yX8_rot.desc).map (fun d => d.parameters.length) = some 2 by decide +kernel) (by decide) (by decide) (by decide) (by decide) (Nat.le_of_ble_eq_true rfl) rfl dX8_mix_278 rfl ?_
      rintro v9 w6 ⟨rfl, rfl⟩
      show V g k 8 w1 0 0 (kQ g k (fun v w' => v = none ∧ (∃ st' nw' wd' : Nat → Int32, w' 13 = some (ad 13, aI g 8 st') ∧ w' 14 = some (ad 14, aI g 8 nw') ∧ w' 15 = some (ad 15, aI g 64 wd') ∧ ∀ j, j < 8 → st' j = cmp9 rw bk st j) ∧ Fr w w' 13 16) 0 0) 281 [(5, .int (u9 (kCu t) (sc9 rw bk t) nw1)), (4, .int (nw1 0)), (3, .int (nw1 4)), (2, .int (nI t)), (0, .ref m0), (1, .int (nI bk))] [.int (rot9 (nw1 0) (nI 2))]
      refine r_iload (q := 283) C 1 dX8_mix_281 rfl rfl ?_
      refine r_bipush (q := 285) C (nI 13) dX8_mix_283 (by decide) rfl ?_
      refine r_callS (q := 288) (As := [.int (nw1 0), .int (nI 13)]) (st := [.int (rot9 (nw1 0) (nI 2))]) C (m_rot) q839 q837 q838 q9 ⟨by decide, by decide⟩ (show (parseMethodDescriptor yX8_rot.desc).map (fun d => d.parameters.length) = some 2 by decide +kernel) (by decide) (by decide) (by decide) (by decide) (Nat.le_of_ble_eq_true rfl) rfl dX8_mix_285 rfl ?_
      rintro v9 w7 ⟨rfl, rfl⟩
      show V g k 8 w1 0 0 (kQ g k (fun v w' => v = none ∧ (∃ st' nw' wd' : Nat → Int32, w' 13 = some (ad 13, aI g 8 st') ∧ w' 14 = some (ad 14, aI g 8 nw') ∧ w' 15 = some (ad 15, aI g 64 wd') ∧ ∀ j, j < 8 → st' j = cmp9 rw bk st j) ∧ Fr w w' 13 16) 0 0) 288 [(5, .int (u9 (kCu t) (sc9 rw bk t) nw1)), (4, .int (nw1 0)), (3, .int (nw1 4)), (2, .int (nI t)), (0, .ref m0), (1, .int (nI bk))] [.int (rot9 (nw1 0) (nI 13)), .int (rot9 (nw1 0) (nI 2))]
      refine r_ixor (q := 289) C dX8_mix_288 rfl ?_
      refine r_iload (q := 291) C 1 dX8_mix_289 rfl rfl ?_
      refine r_bipush (q := 293) C (nI 22) dX8_mix_291 (by decide) rfl ?_
      refine r_callS (q := 296) (As := [.int (nw1 0), .int (nI 22)]) (st := [.int ((rot9 (nw1 0) (nI 2)) ^^^ (rot9 (nw1 0) (nI 13)))]) C (m_rot) q839 q837 q838 q9 ⟨by decide, by decide⟩ (show (parseMethodDescriptor yX8_rot.desc).map (fun d => d.parameters.length) = some 2 by decide +kernel) (by decide) (by decide) (by decide) (by decide) (Nat.le_of_ble_eq_true rfl) rfl dX8_mix_293 rfl ?_
      rintro v9 w8 ⟨rfl, rfl⟩
      show V g k 8 w1 0 0 (kQ g k (fun v w' => v = none ∧ (∃ st' nw' wd' : Nat → Int32, w' 13 = some (ad 13, aI g 8 st') ∧ w' 14 = some (ad 14, aI g 8 nw') ∧ w' 15 = some (ad 15, aI g 64 wd') ∧ ∀ j, j < 8 → st' j = cmp9 rw bk st j) ∧ Fr w w' 13 16) 0 0) 296 [(5, .int (u9 (kCu t) (sc9 rw bk t) nw1)), (4, .int (nw1 0)), (3, .int (nw1 4)), (2, .int (nI t)), (0, .ref m0), (1, .int (nI bk))] [.int (rot9 (nw1 0) (nI 22)), .int ((rot9 (nw1 0) (nI 2)) ^^^ (rot9 (nw1 0) (nI 13)))]
      refine r_ixor (q := 297) C dX8_mix_296 rfl ?_
      refine r_iload (q := 299) C 1 dX8_mix_297 rfl rfl ?_
      refine r_aload_n (q := 300) C 4 dX8_mix_299 rfl rfl ?_
      refine r_get (q := 303) (t := 0) C koX8 ((gf 0 (by decide)).trans h0) 20 (by decide) q720 rfl rfl dX8_mix_300 rfl ?_
      refine r_iconst (q := 304) C (nI 1) dX8_mix_303 (by decide) rfl ?_
      refine r_iald (q := 305) (t := 14) C g14 1 rfl (by decide) (by decide) dX8_mix_304 rfl ?_
      refine r_iand (q := 306) C dX8_mix_305 rfl ?_
      refine r_iload (q := 308) C 1 dX8_mix_306 rfl rfl ?_
      refine r_aload_n (q := 309) C 4 dX8_mix_308 rfl rfl ?_
      refine r_get (q := 312) (t := 0) C koX8 ((gf 0 (by decide)).trans h0) 20 (by decide) q720 rfl rfl dX8_mix_309 rfl ?_
      refine r_iconst (q := 313) C (nI 2) dX8_mix_312 (by decide) rfl ?_
      refine r_iald (q := 314) (t := 14) C g14 2 rfl (by decide) (by decide) dX8_mix_313 rfl ?_
      refine r_iand (q := 315) C dX8_mix_314 rfl ?_
      refine r_ixor (q := 316) C dX8_mix_315 rfl ?_
      refine r_aload_n (q := 317) C 4 dX8_mix_316 rfl rfl ?_
      refine r_get (q := 320) (t := 0) C koX8 ((gf 0 (by decide)).trans h0) 20 (by decide) q720 rfl rfl dX8_mix_317 rfl ?_
      refine r_iconst (q := 321) C (nI 1) dX8_mix_320 (by decide) rfl ?_
      refine r_iald (q := 322) (t := 14) C g14 1 rfl (by decide) (by decide) dX8_mix_321 rfl ?_
      refine r_aload_n (q := 323) C 4 dX8_mix_322 rfl rfl ?_
      refine r_get (q := 326) (t := 0) C koX8 ((gf 0 (by decide)).trans h0) 20 (by decide) q720 rfl rfl dX8_mix_323 rfl ?_
      refine r_iconst (q := 327) C (nI 2) dX8_mix_326 (by decide) rfl ?_
      refine r_iald (q := 328) (t := 14) C g14 2 rfl (by decide) (by decide) dX8_mix_327 rfl ?_
      refine r_iand (q := 329) C dX8_mix_328 rfl ?_
      refine r_ixor (q := 330) C dX8_mix_329 rfl ?_
      refine r_iadd (q := 331) C dX8_mix_330 rfl ?_
      refine r_ti (show ((((rot9 (nw1 0) (nI 2)) ^^^ (rot9 (nw1 0) (nI 13))) ^^^ (rot9 (nw1 0) (nI 22))) + ((((nw1 0) &&& (nw1 1)) ^^^ ((nw1 0) &&& (nw1 2))) ^^^ ((nw1 1) &&& (nw1 2))) : Int32) = v9 nw1 from rfl) ?_
      refine r_istore (q := 333) (lv' := [(6, .int (v9 nw1)), (5, .int (u9 (kCu t) (sc9 rw bk t) nw1)), (4, .int (nw1 0)), (3, .int (nw1 4)), (2, .int (nI t)), (0, .ref m0), (1, .int (nI bk))]) C dX8_mix_331 (by decide) rfl rfl ?_
      refine r_bipush (q := 335) C (nI 7) dX8_mix_333 (by decide) rfl ?_
      refine r_istore (q := 337) (lv' := [(7, .int (nI 7)), (6, .int (v9 nw1)), (5, .int (u9 (kCu t) (sc9 rw bk t) nw1)), (4, .int (nw1 0)), (3, .int (nw1 4)), (2, .int (nI t)), (0, .ref m0), (1, .int (nI bk))]) C dX8_mix_335 (by decide) rfl rfl ?_
      refine r_iload (q := 339) C 0 dX8_mix_337 rfl rfl ?_
      refine r_if_le_f (q := 342) (tgt := 364) C dX8_mix_339 (by decide) rfl (fun z => absurd ((nI_leI (a := 7) (b := 0) (by omega) (by omega)).mp z) (by omega)) ?_
      refine r_aload_n (q := 343) C 6 dX8_mix_342 rfl rfl ?_
      refine r_get (q := 346) (t := 0) C koX8 ((gf 0 (by decide)).trans h0) 20 (by decide) q720 rfl rfl dX8_mix_343 rfl ?_
      refine r_iload (q := 348) C 0 dX8_mix_346 rfl rfl ?_
      refine r_aload_n (q := 349) C 6 dX8_mix_348 rfl rfl ?_
      refine r_get (q := 352) (t := 0) C koX8 ((gf 0 (by decide)).trans h0) 20 (by decide) q720 rfl rfl dX8_mix_349 rfl ?_
      refine r_iload (q := 354) C 0 dX8_mix_352 rfl rfl ?_
      refine r_iconst (q := 355) C (nI 1) dX8_mix_354 (by decide) rfl ?_
      refine r_isub (q := 356) C dX8_mix_355 rfl ?_
      refine r_ti (show ((nI 7) - (nI 1) : Int32) = nI (7 - 1) from pk_sub (by omega)) ?_
      refine r_iald (q := 357) (t := 14) C g14 (7 - 1) rfl (by omega) (by decide) dX8_mix_356 rfl ?_
      refine r_iast (q := 358) (t := 14) (w' := wd_set w1 14 (ad 14) (aI g 8 (upd nw1 7 (nw1 (7 - 1))))) C g14 7 rfl (by decide) (by decide) dX8_mix_357 rfl rfl ?_
      refine r_iinc (q := 361) (v := nI 6) (lv' := [(7, .int (nI 6)), (6, .int (v9 nw1)), (5, .int (u9 (kCu t) (sc9 rw bk t) nw1)), (4, .int (nw1 0)), (3, .int (nw1 4)), (2, .int (nI t)), (0, .ref m0), (1, .int (nI bk))]) C 0 dX8_mix_358 rfl (by decide) (by decide) rfl rfl ?_
      refine r_goto (tgt := 337) C dX8_mix_361 (by decide) ?_
      refine r_iload (q := 339) C 0 dX8_mix_337 rfl rfl ?_
      refine r_if_le_f (q := 342) (tgt := 364) C dX8_mix_339 (by decide) rfl (fun z => absurd ((nI_leI (a := 6) (b := 0) (by omega) (by omega)).mp z) (by omega)) ?_
      refine r_aload_n (q := 343) C 6 dX8_mix_342 rfl rfl ?_
      refine r_get (q := 346) (t := 0) C koX8 ((wd_ne (by decide)).trans ((gf 0 (by decide)).trans h0)) 20 (by decide) q720 rfl rfl dX8_mix_343 rfl ?_
      refine r_iload (q := 348) C 0 dX8_mix_346 rfl rfl ?_
      refine r_aload_n (q := 349) C 6 dX8_mix_348 rfl rfl ?_
      refine r_get (q := 352) (t := 0) C koX8 ((wd_ne (by decide)).trans ((gf 0 (by decide)).trans h0)) 20 (by decide) q720 rfl rfl dX8_mix_349 rfl ?_
      refine r_iload (q := 354) C 0 dX8_mix_352 rfl rfl ?_
      refine r_iconst (q := 355) C (nI 1) dX8_mix_354 (by decide) rfl ?_
      refine r_isub (q := 356) C dX8_mix_355 rfl ?_
      refine r_ti (show ((nI 6) - (nI 1) : Int32) = nI (6 - 1) from pk_sub (by omega)) ?_
      refine r_iald (q := 357) (t := 14) C wd_eq (6 - 1) rfl (by omega) (by decide) dX8_mix_356 rfl ?_
      refine r_iast (q := 358) (t := 14) (w' := wd_set w1 14 (ad 14) (aI g 8 (upd (upd nw1 7 (nw1 (7 - 1))) 6 ((upd nw1 7 (nw1 (7 - 1))) (6 - 1))))) C wd_eq 6 rfl (by decide) (by decide) dX8_mix_357 rfl wd_ss ?_
      refine r_iinc (q := 361) (v := nI 5) (lv' := [(7, .int (nI 5)), (6, .int (v9 nw1)), (5, .int (u9 (kCu t) (sc9 rw bk t) nw1)), (4, .int (nw1 0)), (3, .int (nw1 4)), (2, .int (nI t)), (0, .ref m0), (1, .int (nI bk))]) C 0 dX8_mix_358 rfl (by decide) (by decide) rfl rfl ?_
      refine r_goto (tgt := 337) C dX8_mix_361 (by decide) ?_
      refine r_iload (q := 339) C 0 dX8_mix_337 rfl rfl ?_
      refine r_if_le_f (q := 342) (tgt := 364) C dX8_mix_339 (by decide) rfl (fun z => absurd ((nI_leI (a := 5) (b := 0) (by omega) (by omega)).mp z) (by omega)) ?_
      refine r_aload_n (q := 343) C 6 dX8_mix_342 rfl rfl ?_
      refine r_get (q := 346) (t := 0) C koX8 ((wd_ne (by decide)).trans ((gf 0 (by decide)).trans h0)) 20 (by decide) q720 rfl rfl dX8_mix_343 rfl ?_
      refine r_iload (q := 348) C 0 dX8_mix_346 rfl rfl ?_
      refine r_aload_n (q := 349) C 6 dX8_mix_348 rfl rfl ?_
      refine r_get (q := 352) (t := 0) C koX8 ((wd_ne (by decide)).trans ((gf 0 (by decide)).trans h0)) 20 (by decide) q720 rfl rfl dX8_mix_349 rfl ?_
      refine r_iload (q := 354) C 0 dX8_mix_352 rfl rfl ?_
      refine r_iconst (q := 355) C (nI 1) dX8_mix_354 (by decide) rfl ?_
      refine r_isub (q := 356) C dX8_mix_355 rfl ?_
      refine r_ti (show ((nI 5) - (nI 1) : Int32) = nI (5 - 1) from pk_sub (by omega)) ?_
      refine r_iald (q := 357) (t := 14) C wd_eq (5 - 1) rfl (by omega) (by decide) dX8_mix_356 rfl ?_
      refine r_iast (q := 358) (t := 14) (w' := wd_set w1 14 (ad 14) (aI g 8 (upd (upd (upd nw1 7 (nw1 (7 - 1))) 6 ((upd nw1 7 (nw1 (7 - 1))) (6 - 1))) 5 ((upd (upd nw1 7 (nw1 (7 - 1))) 6 ((upd nw1 7 (nw1 (7 - 1))) (6 - 1))) (5 - 1))))) C wd_eq 5 rfl (by decide) (by decide) dX8_mix_357 rfl wd_ss ?_
      refine r_iinc (q := 361) (v := nI 4) (lv' := [(7, .int (nI 4)), (6, .int (v9 nw1)), (5, .int (u9 (kCu t) (sc9 rw bk t) nw1)), (4, .int (nw1 0)), (3, .int (nw1 4)), (2, .int (nI t)), (0, .ref m0), (1, .int (nI bk))]) C 0 dX8_mix_358 rfl (by decide) (by decide) rfl rfl ?_
      refine r_goto (tgt := 337) C dX8_mix_361 (by decide) ?_
      refine r_iload (q := 339) C 0 dX8_mix_337 rfl rfl ?_
      refine r_if_le_f (q := 342) (tgt := 364) C dX8_mix_339 (by decide) rfl (fun z => absurd ((nI_leI (a := 4) (b := 0) (by omega) (by omega)).mp z) (by omega)) ?_
      refine r_aload_n (q := 343) C 6 dX8_mix_342 rfl rfl ?_
      refine r_get (q := 346) (t := 0) C koX8 ((wd_ne (by decide)).trans ((gf 0 (by decide)).trans h0)) 20 (by decide) q720 rfl rfl dX8_mix_343 rfl ?_
      refine r_iload (q := 348) C 0 dX8_mix_346 rfl rfl ?_
      refine r_aload_n (q := 349) C 6 dX8_mix_348 rfl rfl ?_
      refine r_get (q := 352) (t := 0) C koX8 ((wd_ne (by decide)).trans ((gf 0 (by decide)).trans h0)) 20 (by decide) q720 rfl rfl dX8_mix_349 rfl ?_
      refine r_iload (q := 354) C 0 dX8_mix_352 rfl rfl ?_
      refine r_iconst (q := 355) C (nI 1) dX8_mix_354 (by decide) rfl ?_
      refine r_isub (q := 356) C dX8_mix_355 rfl ?_
      refine r_ti (show ((nI 4) - (nI 1) : Int32) = nI (4 - 1) from pk_sub (by omega)) ?_
      refine r_iald (q := 357) (t := 14) C wd_eq (4 - 1) rfl (by omega) (by decide) dX8_mix_356 rfl ?_
      refine r_iast (q := 358) (t := 14) (w' := wd_set w1 14 (ad 14) (aI g 8 (upd (upd (upd (upd nw1 7 (nw1 (7 - 1))) 6 ((upd nw1 7 (nw1 (7 - 1))) (6 - 1))) 5 ((upd (upd nw1 7 (nw1 (7 - 1))) 6 ((upd nw1 7 (nw1 (7 - 1))) (6 - 1))) (5 - 1))) 4 ((upd (upd (upd nw1 7 (nw1 (7 - 1))) 6 ((upd nw1 7 (nw1 (7 - 1))) (6 - 1))) 5 ((upd (upd nw1 7 (nw1 (7 - 1))) 6 ((upd nw1 7 (nw1 (7 - 1))) (6 - 1))) (5 - 1))) (4 - 1))))) C wd_eq 4 rfl (by decide) (by decide) dX8_mix_357 rfl wd_ss ?_
      refine r_iinc (q := 361) (v := nI 3) (lv' := [(7, .int (nI 3)), (6, .int (v9 nw1)), (5, .int (u9 (kCu t) (sc9 rw bk t) nw1)), (4, .int (nw1 0)), (3, .int (nw1 4)), (2, .int (nI t)), (0, .ref m0), (1, .int (nI bk))]) C 0 dX8_mix_358 rfl (by decide) (by decide) rfl rfl ?_
      refine r_goto (tgt := 337) C dX8_mix_361 (by decide) ?_
      refine r_iload (q := 339) C 0 dX8_mix_337 rfl rfl ?_
      refine r_if_le_f (q := 342) (tgt := 364) C dX8_mix_339 (by decide) rfl (fun z => absurd ((nI_leI (a := 3) (b := 0) (by omega) (by omega)).mp z) (by omega)) ?_
      refine r_aload_n (q := 343) C 6 dX8_mix_342 rfl rfl ?_
      refine r_get (q := 346) (t := 0) C koX8 ((wd_ne (by decide)).trans ((gf 0 (by decide)).trans h0)) 20 (by decide) q720 rfl rfl dX8_mix_343 rfl ?_
      refine r_iload (q := 348) C 0 dX8_mix_346 rfl rfl ?_
      refine r_aload_n (q := 349) C 6 dX8_mix_348 rfl rfl ?_
      refine r_get (q := 352) (t := 0) C koX8 ((wd_ne (by decide)).trans ((gf 0 (by decide)).trans h0)) 20 (by decide) q720 rfl rfl dX8_mix_349 rfl ?_
      refine r_iload (q := 354) C 0 dX8_mix_352 rfl rfl ?_
      refine r_iconst (q := 355) C (nI 1) dX8_mix_354 (by decide) rfl ?_
      refine r_isub (q := 356) C dX8_mix_355 rfl ?_
      refine r_ti (show ((nI 3) - (nI 1) : Int32) = nI (3 - 1) from pk_sub (by omega)) ?_
      refine r_iald (q := 357) (t := 14) C wd_eq (3 - 1) rfl (by omega) (by decide) dX8_mix_356 rfl ?_
      refine r_iast (q := 358) (t := 14) (w' := wd_set w1 14 (ad 14) (aI g 8 (upd (upd (upd (upd (upd nw1 7 (nw1 (7 - 1))) 6 ((upd nw1 7 (nw1 (7 - 1))) (6 - 1))) 5 ((upd (upd nw1 7 (nw1 (7 - 1))) 6 ((upd nw1 7 (nw1 (7 - 1))) (6 - 1))) (5 - 1))) 4 ((upd (upd (upd nw1 7 (nw1 (7 - 1))) 6 ((upd nw1 7 (nw1 (7 - 1))) (6 - 1))) 5 ((upd (upd nw1 7 (nw1 (7 - 1))) 6 ((upd nw1 7 (nw1 (7 - 1))) (6 - 1))) (5 - 1))) (4 - 1))) 3 ((upd (upd (upd (upd nw1 7 (nw1 (7 - 1))) 6 ((upd nw1 7 (nw1 (7 - 1))) (6 - 1))) 5 ((upd (upd nw1 7 (nw1 (7 - 1))) 6 ((upd nw1 7 (nw1 (7 - 1))) (6 - 1))) (5 - 1))) 4 ((upd (upd (upd nw1 7 (nw1 (7 - 1))) 6 ((upd nw1 7 (nw1 (7 - 1))) (6 - 1))) 5 ((upd (upd nw1 7 (nw1 (7 - 1))) 6 ((upd nw1 7 (nw1 (7 - 1))) (6 - 1))) (5 - 1))) (4 - 1))) (3 - 1))))) C wd_eq 3 rfl (by decide) (by decide) dX8_mix_357 rfl wd_ss ?_
      refine r_iinc (q := 361) (v := nI 2) (lv' := [(7, .int (nI 2)), (6, .int (v9 nw1)), (5, .int (u9 (kCu t) (sc9 rw bk t) nw1)), (4, .int (nw1 0)), (3, .int (nw1 4)), (2, .int (nI t)), (0, .ref m0), (1, .int (nI bk))]) C 0 dX8_mix_358 rfl (by decide) (by decide) rfl rfl ?_
      refine r_goto (tgt := 337) C dX8_mix_361 (by decide) ?_
      refine r_iload (q := 339) C 0 dX8_mix_337 rfl rfl ?_
      refine r_if_le_f (q := 342) (tgt := 364) C dX8_mix_339 (by decide) rfl (fun z => absurd ((nI_leI (a := 2) (b := 0) (by omega) (by omega)).mp z) (by omega)) ?_
      refine r_aload_n (q := 343) C 6 dX8_mix_342 rfl rfl ?_
      refine r_get (q := 346) (t := 0) C koX8 ((wd_ne (by decide)).trans ((gf 0 (by decide)).trans h0)) 20 (by decide) q720 rfl rfl dX8_mix_343 rfl ?_
      refine r_iload (q := 348) C 0 dX8_mix_346 rfl rfl ?_
      refine r_aload_n (q := 349) C 6 dX8_mix_348 rfl rfl ?_
      refine r_get (q := 352) (t := 0) C koX8 ((wd_ne (by decide)).trans ((gf 0 (by decide)).trans h0)) 20 (by decide) q720 rfl rfl dX8_mix_349 rfl ?_
      refine r_iload (q := 354) C 0 dX8_mix_352 rfl rfl ?_
      refine r_iconst (q := 355) C (nI 1) dX8_mix_354 (by decide) rfl ?_
      refine r_isub (q := 356) C dX8_mix_355 rfl ?_
      refine r_ti (show ((nI 2) - (nI 1) : Int32) = nI (2 - 1) from pk_sub (by omega)) ?_
      refine r_iald (q := 357) (t := 14) C wd_eq (2 - 1) rfl (by omega) (by decide) dX8_mix_356 rfl ?_
      refine r_iast (q := 358) (t := 14) (w' := wd_set w1 14 (ad 14) (aI g 8 (upd (upd (upd (upd (upd (upd nw1 7 (nw1 (7 - 1))) 6 ((upd nw1 7 (nw1 (7 - 1))) (6 - 1))) 5 ((upd (upd nw1 7 (nw1 (7 - 1))) 6 ((upd nw1 7 (nw1 (7 - 1))) (6 - 1))) (5 - 1))) 4 ((upd (upd (upd nw1 7 (nw1 (7 - 1))) 6 ((upd nw1 7 (nw1 (7 - 1))) (6 - 1))) 5 ((upd (upd nw1 7 (nw1 (7 - 1))) 6 ((upd nw1 7 (nw1 (7 - 1))) (6 - 1))) (5 - 1))) (4 - 1))) 3 ((upd (upd (upd (upd nw1 7 (nw1 (7 - 1))) 6 ((upd nw1 7 (nw1 (7 - 1))) (6 - 1))) 5 ((upd (upd nw1 7 (nw1 (7 - 1))) 6 ((upd nw1 7 (nw1 (7 - 1))) (6 - 1))) (5 - 1))) 4 ((upd (upd (upd nw1 7 (nw1 (7 - 1))) 6 ((upd nw1 7 (nw1 (7 - 1))) (6 - 1))) 5 ((upd (upd nw1 7 (nw1 (7 - 1))) 6 ((upd nw1 7 (nw1 (7 - 1))) (6 - 1))) (5 - 1))) (4 - 1))) (3 - 1))) 2 ((upd (upd (upd (upd (upd nw1 7 (nw1 (7 - 1))) 6 ((upd nw1 7 (nw1 (7 - 1))) (6 - 1))) 5 ((upd (upd nw1 7 (nw1 (7 - 1))) 6 ((upd nw1 7 (nw1 (7 - 1))) (6 - 1))) (5 - 1))) 4 ((upd (upd (upd nw1 7 (nw1 (7 - 1))) 6 ((upd nw1 7 (nw1 (7 - 1))) (6 - 1))) 5 ((upd (upd nw1 7 (nw1 (7 - 1))) 6 ((upd nw1 7 (nw1 (7 - 1))) (6 - 1))) (5 - 1))) (4 - 1))) 3 ((upd (upd (upd (upd nw1 7 (nw1 (7 - 1))) 6 ((upd nw1 7 (nw1 (7 - 1))) (6 - 1))) 5 ((upd (upd nw1 7 (nw1 (7 - 1))) 6 ((upd nw1 7 (nw1 (7 - 1))) (6 - 1))) (5 - 1))) 4 ((upd (upd (upd nw1 7 (nw1 (7 - 1))) 6 ((upd nw1 7 (nw1 (7 - 1))) (6 - 1))) 5 ((upd (upd nw1 7 (nw1 (7 - 1))) 6 ((upd nw1 7 (nw1 (7 - 1))) (6 - 1))) (5 - 1))) (4 - 1))) (3 - 1))) (2 - 1))))) C wd_eq 2 rfl (by decide) (by decide) dX8_mix_357 rfl wd_ss ?_
      refine r_iinc (q := 361) (v := nI 1) (lv' := [(7, .int (nI 1)), (6, .int (v9 nw1)), (5, .int (u9 (kCu t) (sc9 rw bk t) nw1)), (4, .int (nw1 0)), (3, .int (nw1 4)), (2, .int (nI t)), (0, .ref m0), (1, .int (nI bk))]) C 0 dX8_mix_358 rfl (by decide) (by decide) rfl rfl ?_
      refine r_goto (tgt := 337) C dX8_mix_361 (by decide) ?_
      refine r_iload (q := 339) C 0 dX8_mix_337 rfl rfl ?_
      refine r_if_le_f (q := 342) (tgt := 364) C dX8_mix_339 (by decide) rfl (fun z => absurd ((nI_leI (a := 1) (b := 0) (by omega) (by omega)).mp z) (by omega)) ?_
      refine r_aload_n (q := 343) C 6 dX8_mix_342 rfl rfl ?_
      refine r_get (q := 346) (t := 0) C koX8 ((wd_ne (by decide)).trans ((gf 0 (by decide)).trans h0)) 20 (by decide) q720 rfl rfl dX8_mix_343 rfl ?_
      refine r_iload (q := 348) C 0 dX8_mix_346 rfl rfl ?_
      refine r_aload_n (q := 349) C 6 dX8_mix_348 rfl rfl ?_
      refine r_get (q := 352) (t := 0) C koX8 ((wd_ne (by decide)).trans ((gf 0 (by decide)).trans h0)) 20 (by decide) q720 rfl rfl dX8_mix_349 rfl ?_
      refine r_iload (q := 354) C 0 dX8_mix_352 rfl rfl ?_
      refine r_iconst (q := 355) C (nI 1) dX8_mix_354 (by decide) rfl ?_
      refine r_isub (q := 356) C dX8_mix_355 rfl ?_
      refine r_ti (show ((nI 1) - (nI 1) : Int32) = nI (1 - 1) from pk_sub (by omega)) ?_
      refine r_iald (q := 357) (t := 14) C wd_eq (1 - 1) rfl (by omega) (by decide) dX8_mix_356 rfl ?_
      refine r_iast (q := 358) (t := 14) (w' := wd_set w1 14 (ad 14) (aI g 8 (upd (upd (upd (upd (upd (upd (upd nw1 7 (nw1 (7 - 1))) 6 ((upd nw1 7 (nw1 (7 - 1))) (6 - 1))) 5 ((upd (upd nw1 7 (nw1 (7 - 1))) 6 ((upd nw1 7 (nw1 (7 - 1))) (6 - 1))) (5 - 1))) 4 ((upd (upd (upd nw1 7 (nw1 (7 - 1))) 6 ((upd nw1 7 (nw1 (7 - 1))) (6 - 1))) 5 ((upd (upd nw1 7 (nw1 (7 - 1))) 6 ((upd nw1 7 (nw1 (7 - 1))) (6 - 1))) (5 - 1))) (4 - 1))) 3 ((upd (upd (upd (upd nw1 7 (nw1 (7 - 1))) 6 ((upd nw1 7 (nw1 (7 - 1))) (6 - 1))) 5 ((upd (upd nw1 7 (nw1 (7 - 1))) 6 ((upd nw1 7 (nw1 (7 - 1))) (6 - 1))) (5 - 1))) 4 ((upd (upd (upd nw1 7 (nw1 (7 - 1))) 6 ((upd nw1 7 (nw1 (7 - 1))) (6 - 1))) 5 ((upd (upd nw1 7 (nw1 (7 - 1))) 6 ((upd nw1 7 (nw1 (7 - 1))) (6 - 1))) (5 - 1))) (4 - 1))) (3 - 1))) 2 ((upd (upd (upd (upd (upd nw1 7 (nw1 (7 - 1))) 6 ((upd nw1 7 (nw1 (7 - 1))) (6 - 1))) 5 ((upd (upd nw1 7 (nw1 (7 - 1))) 6 ((upd nw1 7 (nw1 (7 - 1))) (6 - 1))) (5 - 1))) 4 ((upd (upd (upd nw1 7 (nw1 (7 - 1))) 6 ((upd nw1 7 (nw1 (7 - 1))) (6 - 1))) 5 ((upd (upd nw1 7 (nw1 (7 - 1))) 6 ((upd nw1 7 (nw1 (7 - 1))) (6 - 1))) (5 - 1))) (4 - 1))) 3 ((upd (upd (upd (upd nw1 7 (nw1 (7 - 1))) 6 ((upd nw1 7 (nw1 (7 - 1))) (6 - 1))) 5 ((upd (upd nw1 7 (nw1 (7 - 1))) 6 ((upd nw1 7 (nw1 (7 - 1))) (6 - 1))) (5 - 1))) 4 ((upd (upd (upd nw1 7 (nw1 (7 - 1))) 6 ((upd nw1 7 (nw1 (7 - 1))) (6 - 1))) 5 ((upd (upd nw1 7 (nw1 (7 - 1))) 6 ((upd nw1 7 (nw1 (7 - 1))) (6 - 1))) (5 - 1))) (4 - 1))) (3 - 1))) (2 - 1))) 1 ((upd (upd (upd (upd (upd (upd nw1 7 (nw1 (7 - 1))) 6 ((upd nw1 7 (nw1 (7 - 1))) (6 - 1))) 5 ((upd (upd nw1 7 (nw1 (7 - 1))) 6 ((upd nw1 7 (nw1 (7 - 1))) (6 - 1))) (5 - 1))) 4 ((upd (upd (upd nw1 7 (nw1 (7 - 1))) 6 ((upd nw1 7 (nw1 (7 - 1))) (6 - 1))) 5 ((upd (upd nw1 7 (nw1 (7 - 1))) 6 ((upd nw1 7 (nw1 (7 - 1))) (6 - 1))) (5 - 1))) (4 - 1))) 3 ((upd (upd (upd (upd nw1 7 (nw1 (7 - 1))) 6 ((upd nw1 7 (nw1 (7 - 1))) (6 - 1))) 5 ((upd (upd nw1 7 (nw1 (7 - 1))) 6 ((upd nw1 7 (nw1 (7 - 1))) (6 - 1))) (5 - 1))) 4 ((upd (upd (upd nw1 7 (nw1 (7 - 1))) 6 ((upd nw1 7 (nw1 (7 - 1))) (6 - 1))) 5 ((upd (upd nw1 7 (nw1 (7 - 1))) 6 ((upd nw1 7 (nw1 (7 - 1))) (6 - 1))) (5 - 1))) (4 - 1))) (3 - 1))) 2 ((upd (upd (upd (upd (upd nw1 7 (nw1 (7 - 1))) 6 ((upd nw1 7 (nw1 (7 - 1))) (6 - 1))) 5 ((upd (upd nw1 7 (nw1 (7 - 1))) 6 ((upd nw1 7 (nw1 (7 - 1))) (6 - 1))) (5 - 1))) 4 ((upd (upd (upd nw1 7 (nw1 (7 - 1))) 6 ((upd nw1 7 (nw1 (7 - 1))) (6 - 1))) 5 ((upd (upd nw1 7 (nw1 (7 - 1))) 6 ((upd nw1 7 (nw1 (7 - 1))) (6 - 1))) (5 - 1))) (4 - 1))) 3 ((upd (upd (upd (upd nw1 7 (nw1 (7 - 1))) 6 ((upd nw1 7 (nw1 (7 - 1))) (6 - 1))) 5 ((upd (upd nw1 7 (nw1 (7 - 1))) 6 ((upd nw1 7 (nw1 (7 - 1))) (6 - 1))) (5 - 1))) 4 ((upd (upd (upd nw1 7 (nw1 (7 - 1))) 6 ((upd nw1 7 (nw1 (7 - 1))) (6 - 1))) 5 ((upd (upd nw1 7 (nw1 (7 - 1))) 6 ((upd nw1 7 (nw1 (7 - 1))) (6 - 1))) (5 - 1))) (4 - 1))) (3 - 1))) (2 - 1))) (1 - 1))))) C wd_eq 1 rfl (by decide) (by decide) dX8_mix_357 rfl wd_ss ?_
      refine r_iinc (q := 361) (v := nI 0) (lv' := [(7, .int (nI 0)), (6, .int (v9 nw1)), (5, .int (u9 (kCu t) (sc9 rw bk t) nw1)), (4, .int (nw1 0)), (3, .int (nw1 4)), (2, .int (nI t)), (0, .ref m0), (1, .int (nI bk))]) C 0 dX8_mix_358 rfl (by decide) (by decide) rfl rfl ?_
      refine r_goto (tgt := 337) C dX8_mix_361 (by decide) ?_
      refine r_iload (q := 339) C 0 dX8_mix_337 rfl rfl ?_
      refine r_if_le_t (tgt := 364) C dX8_mix_339 (by decide) ((nI_leI (a := 0) (b := 0) (by omega) (by omega)).mpr (by omega)) ?_
      refine r_aload_n (q := 365) C 6 dX8_mix_364 rfl rfl ?_
      refine r_get (q := 368) (t := 0) C koX8 ((wd_ne (by decide)).trans ((gf 0 (by decide)).trans h0)) 20 (by decide) q720 rfl rfl dX8_mix_365 rfl ?_
      refine r_iconst (q := 369) C (nI 4) dX8_mix_368 (by decide) rfl ?_
      refine r_aload_n (q := 370) C 6 dX8_mix_369 rfl rfl ?_
      refine r_get (q := 373) (t := 0) C koX8 ((wd_ne (by decide)).trans ((gf 0 (by decide)).trans h0)) 20 (by decide) q720 rfl rfl dX8_mix_370 rfl ?_
      refine r_iconst (q := 374) C (nI 4) dX8_mix_373 (by decide) rfl ?_
      refine r_iald (q := 375) (t := 14) C wd_eq 4 rfl (by decide) (by decide) dX8_mix_374 rfl ?_
      refine r_iload (q := 377) C 2 dX8_mix_375 rfl rfl ?_
      refine r_iadd (q := 378) C dX8_mix_377 rfl ?_
      refine r_iast (q := 379) (t := 14) (w' := wd_set w1 14 (ad 14) (aI g 8 (upd (upd (upd (upd (upd (upd (upd (upd nw1 7 (nw1 (7 - 1))) 6 ((upd nw1 7 (nw1 (7 - 1))) (6 - 1))) 5 ((upd (upd nw1 7 (nw1 (7 - 1))) 6 ((upd nw1 7 (nw1 (7 - 1))) (6 - 1))) (5 - 1))) 4 ((upd (upd (upd nw1 7 (nw1 (7 - 1))) 6 ((upd nw1 7 (nw1 (7 - 1))) (6 - 1))) 5 ((upd (upd nw1 7 (nw1 (7 - 1))) 6 ((upd nw1 7 (nw1 (7 - 1))) (6 - 1))) (5 - 1))) (4 - 1))) 3 ((upd (upd (upd (upd nw1 7 (nw1 (7 - 1))) 6 ((upd nw1 7 (nw1 (7 - 1))) (6 - 1))) 5 ((upd (upd nw1 7 (nw1 (7 - 1))) 6 ((upd nw1 7 (nw1 (7 - 1))) (6 - 1))) (5 - 1))) 4 ((upd (upd (upd nw1 7 (nw1 (7 - 1))) 6 ((upd nw1 7 (nw1 (7 - 1))) (6 - 1))) 5 ((upd (upd nw1 7 (nw1 (7 - 1))) 6 ((upd nw1 7 (nw1 (7 - 1))) (6 - 1))) (5 - 1))) (4 - 1))) (3 - 1))) 2 ((upd (upd (upd (upd (upd nw1 7 (nw1 (7 - 1))) 6 ((upd nw1 7 (nw1 (7 - 1))) (6 - 1))) 5 ((upd (upd nw1 7 (nw1 (7 - 1))) 6 ((upd nw1 7 (nw1 (7 - 1))) (6 - 1))) (5 - 1))) 4 ((upd (upd (upd nw1 7 (nw1 (7 - 1))) 6 ((upd nw1 7 (nw1 (7 - 1))) (6 - 1))) 5 ((upd (upd nw1 7 (nw1 (7 - 1))) 6 ((upd nw1 7 (nw1 (7 - 1))) (6 - 1))) (5 - 1))) (4 - 1))) 3 ((upd (upd (upd (upd nw1 7 (nw1 (7 - 1))) 6 ((upd nw1 7 (nw1 (7 - 1))) (6 - 1))) 5 ((upd (upd nw1 7 (nw1 (7 - 1))) 6 ((upd nw1 7 (nw1 (7 - 1))) (6 - 1))) (5 - 1))) 4 ((upd (upd (upd nw1 7 (nw1 (7 - 1))) 6 ((upd nw1 7 (nw1 (7 - 1))) (6 - 1))) 5 ((upd (upd nw1 7 (nw1 (7 - 1))) 6 ((upd nw1 7 (nw1 (7 - 1))) (6 - 1))) (5 - 1))) (4 - 1))) (3 - 1))) (2 - 1))) 1 ((upd (upd (upd (upd (upd (upd nw1 7 (nw1 (7 - 1))) 6 ((upd nw1 7 (nw1 (7 - 1))) (6 - 1))) 5 ((upd (upd nw1 7 (nw1 (7 - 1))) 6 ((upd nw1 7 (nw1 (7 - 1))) (6 - 1))) (5 - 1))) 4 ((upd (upd (upd nw1 7 (nw1 (7 - 1))) 6 ((upd nw1 7 (nw1 (7 - 1))) (6 - 1))) 5 ((upd (upd nw1 7 (nw1 (7 - 1))) 6 ((upd nw1 7 (nw1 (7 - 1))) (6 - 1))) (5 - 1))) (4 - 1))) 3 ((upd (upd (upd (upd nw1 7 (nw1 (7 - 1))) 6 ((upd nw1 7 (nw1 (7 - 1))) (6 - 1))) 5 ((upd (upd nw1 7 (nw1 (7 - 1))) 6 ((upd nw1 7 (nw1 (7 - 1))) (6 - 1))) (5 - 1))) 4 ((upd (upd (upd nw1 7 (nw1 (7 - 1))) 6 ((upd nw1 7 (nw1 (7 - 1))) (6 - 1))) 5 ((upd (upd nw1 7 (nw1 (7 - 1))) 6 ((upd nw1 7 (nw1 (7 - 1))) (6 - 1))) (5 - 1))) (4 - 1))) (3 - 1))) 2 ((upd (upd (upd (upd (upd nw1 7 (nw1 (7 - 1))) 6 ((upd nw1 7 (nw1 (7 - 1))) (6 - 1))) 5 ((upd (upd nw1 7 (nw1 (7 - 1))) 6 ((upd nw1 7 (nw1 (7 - 1))) (6 - 1))) (5 - 1))) 4 ((upd (upd (upd nw1 7 (nw1 (7 - 1))) 6 ((upd nw1 7 (nw1 (7 - 1))) (6 - 1))) 5 ((upd (upd nw1 7 (nw1 (7 - 1))) 6 ((upd nw1 7 (nw1 (7 - 1))) (6 - 1))) (5 - 1))) (4 - 1))) 3 ((upd (upd (upd (upd nw1 7 (nw1 (7 - 1))) 6 ((upd nw1 7 (nw1 (7 - 1))) (6 - 1))) 5 ((upd (upd nw1 7 (nw1 (7 - 1))) 6 ((upd nw1 7 (nw1 (7 - 1))) (6 - 1))) (5 - 1))) 4 ((upd (upd (upd nw1 7 (nw1 (7 - 1))) 6 ((upd nw1 7 (nw1 (7 - 1))) (6 - 1))) 5 ((upd (upd nw1 7 (nw1 (7 - 1))) 6 ((upd nw1 7 (nw1 (7 - 1))) (6 - 1))) (5 - 1))) (4 - 1))) (3 - 1))) (2 - 1))) (1 - 1))) 4 (((upd (upd (upd (upd (upd (upd (upd nw1 7 (nw1 (7 - 1))) 6 ((upd nw1 7 (nw1 (7 - 1))) (6 - 1))) 5 ((upd (upd nw1 7 (nw1 (7 - 1))) 6 ((upd nw1 7 (nw1 (7 - 1))) (6 - 1))) (5 - 1))) 4 ((upd (upd (upd nw1 7 (nw1 (7 - 1))) 6 ((upd nw1 7 (nw1 (7 - 1))) (6 - 1))) 5 ((upd (upd nw1 7 (nw1 (7 - 1))) 6 ((upd nw1 7 (nw1 (7 - 1))) (6 - 1))) (5 - 1))) (4 - 1))) 3 ((upd (upd (upd (upd nw1 7 (nw1 (7 - 1))) 6 ((upd nw1 7 (nw1 (7 - 1))) (6 - 1))) 5 ((upd (upd nw1 7 (nw1 (7 - 1))) 6 ((upd nw1 7 (nw1 (7 - 1))) (6 - 1))) (5 - 1))) 4 ((upd (upd (upd nw1 7 (nw1 (7 - 1))) 6 ((upd nw1 7 (nw1 (7 - 1))) (6 - 1))) 5 ((upd (upd nw1 7 (nw1 (7 - 1))) 6 ((upd nw1 7 (nw1 (7 - 1))) (6 - 1))) (5 - 1))) (4 - 1))) (3 - 1))) 2 ((upd (upd (upd (upd (upd nw1 7 (nw1 (7 - 1))) 6 ((upd nw1 7 (nw1 (7 - 1))) (6 - 1))) 5 ((upd (upd nw1 7 (nw1 (7 - 1))) 6 ((upd nw1 7 (nw1 (7 - 1))) (6 - 1))) (5 - 1))) 4 ((upd (upd (upd nw1 7 (nw1 (7 - 1))) 6 ((upd nw1 7 (nw1 (7 - 1))) (6 - 1))) 5 ((upd (upd nw1 7 (nw1 (7 - 1))) 6 ((upd nw1 7 (nw1 (7 - 1))) (6 - 1))) (5 - 1))) (4 - 1))) 3 ((upd (upd (upd (upd nw1 7 (nw1 (7 - 1))) 6 ((upd nw1 7 (nw1 (7 - 1))) (6 - 1))) 5 ((upd (upd nw1 7 (nw1 (7 - 1))) 6 ((upd nw1 7 (nw1 (7 - 1))) (6 - 1))) (5 - 1))) 4 ((upd (upd (upd nw1 7 (nw1 (7 - 1))) 6 ((upd nw1 7 (nw1 (7 - 1))) (6 - 1))) 5 ((upd (upd nw1 7 (nw1 (7 - 1))) 6 ((upd nw1 7 (nw1 (7 - 1))) (6 - 1))) (5 - 1))) (4 - 1))) (3 - 1))) (2 - 1))) 1 ((upd (upd (upd (upd (upd (upd nw1 7 (nw1 (7 - 1))) 6 ((upd nw1 7 (nw1 (7 - 1))) (6 - 1))) 5 ((upd (upd nw1 7 (nw1 (7 - 1))) 6 ((upd nw1 7 (nw1 (7 - 1))) (6 - 1))) (5 - 1))) 4 ((upd (upd (upd nw1 7 (nw1 (7 - 1))) 6 ((upd nw1 7 (nw1 (7 - 1))) (6 - 1))) 5 ((upd (upd nw1 7 (nw1 (7 - 1))) 6 ((upd nw1 7 (nw1 (7 - 1))) (6 - 1))) (5 - 1))) (4 - 1))) 3 ((upd (upd (upd (upd nw1 7 (nw1 (7 - 1))) 6 ((upd nw1 7 (nw1 (7 - 1))) (6 - 1))) 5 ((upd (upd nw1 7 (nw1 (7 - 1))) 6 ((upd nw1 7 (nw1 (7 - 1))) (6 - 1))) (5 - 1))) 4 ((upd (upd (upd nw1 7 (nw1 (7 - 1))) 6 ((upd nw1 7 (nw1 (7 - 1))) (6 - 1))) 5 ((upd (upd nw1 7 (nw1 (7 - 1))) 6 ((upd nw1 7 (nw1 (7 - 1))) (6 - 1))) (5 - 1))) (4 - 1))) (3 - 1))) 2 ((upd (upd (upd (upd (upd nw1 7 (nw1 (7 - 1))) 6 ((upd nw1 7 (nw1 (7 - 1))) (6 - 1))) 5 ((upd (upd nw1 7 (nw1 (7 - 1))) 6 ((upd nw1 7 (nw1 (7 - 1))) (6 - 1))) (5 - 1))) 4 ((upd (upd (upd nw1 7 (nw1 (7 - 1))) 6 ((upd nw1 7 (nw1 (7 - 1))) (6 - 1))) 5 ((upd (upd nw1 7 (nw1 (7 - 1))) 6 ((upd nw1 7 (nw1 (7 - 1))) (6 - 1))) (5 - 1))) (4 - 1))) 3 ((upd (upd (upd (upd nw1 7 (nw1 (7 - 1))) 6 ((upd nw1 7 (nw1 (7 - 1))) (6 - 1))) 5 ((upd (upd nw1 7 (nw1 (7 - 1))) 6 ((upd nw1 7 (nw1 (7 - 1))) (6 - 1))) (5 - 1))) 4 ((upd (upd (upd nw1 7 (nw1 (7 - 1))) 6 ((upd nw1 7 (nw1 (7 - 1))) (6 - 1))) 5 ((upd (upd nw1 7 (nw1 (7 - 1))) 6 ((upd nw1 7 (nw1 (7 - 1))) (6 - 1))) (5 - 1))) (4 - 1))) (3 - 1))) (2 - 1))) (1 - 1))) 4) + (u9 (kCu t) (sc9 rw bk t) nw1))))) C wd_eq 4 rfl (by decide) (by decide) dX8_mix_378 rfl wd_ss ?_
      refine r_aload_n (q := 380) C 6 dX8_mix_379 rfl rfl ?_
      refine r_get (q := 383) (t := 0) C koX8 ((wd_ne (by decide)).trans ((gf 0 (by decide)).trans h0)) 20 (by decide) q720 rfl rfl dX8_mix_380 rfl ?_
      refine r_iconst (q := 384) C (nI 0) dX8_mix_383 (by decide) rfl ?_
      refine r_iload (q := 386) C 2 dX8_mix_384 rfl rfl ?_
      refine r_iload (q := 388) C 1 dX8_mix_386 rfl rfl ?_
      refine r_iadd (q := 389) C dX8_mix_388 rfl ?_
      refine r_iast (q := 390) (t := 14) (w' := wd_set w1 14 (ad 14) (aI g 8 (upd (upd (upd (upd (upd (upd (upd (upd (upd nw1 7 (nw1 (7 - 1))) 6 ((upd nw1 7 (nw1 (7 - 1))) (6 - 1))) 5 ((upd (upd nw1 7 (nw1 (7 - 1))) 6 ((upd nw1 7 (nw1 (7 - 1))) (6 - 1))) (5 - 1))) 4 ((upd (upd (upd nw1 7 (nw1 (7 - 1))) 6 ((upd nw1 7 (nw1 (7 - 1))) (6 - 1))) 5 ((upd (upd nw1 7 (nw1 (7 - 1))) 6 ((upd nw1 7 (nw1 (7 - 1))) (6 - 1))) (5 - 1))) (4 - 1))) 3 ((upd (upd (upd (upd nw1 7 (nw1 (7 - 1))) 6 ((upd nw1 7 (nw1 (7 - 1))) (6 - 1))) 5 ((upd (upd nw1 7 (nw1 (7 - 1))) 6 ((upd nw1 7 (nw1 (7 - 1))) (6 - 1))) (5 - 1))) 4 ((upd (upd (upd nw1 7 (nw1 (7 - 1))) 6 ((upd nw1 7 (nw1 (7 - 1))) (6 - 1))) 5 ((upd (upd nw1 7 (nw1 (7 - 1))) 6 ((upd nw1 7 (nw1 (7 - 1))) (6 - 1))) (5 - 1))) (4 - 1))) (3 - 1))) 2 ((upd (upd (upd (upd (upd nw1 7 (nw1 (7 - 1))) 6 ((upd nw1 7 (nw1 (7 - 1))) (6 - 1))) 5 ((upd (upd nw1 7 (nw1 (7 - 1))) 6 ((upd nw1 7 (nw1 (7 - 1))) (6 - 1))) (5 - 1))) 4 ((upd (upd (upd nw1 7 (nw1 (7 - 1))) 6 ((upd nw1 7 (nw1 (7 - 1))) (6 - 1))) 5 ((upd (upd nw1 7 (nw1 (7 - 1))) 6 ((upd nw1 7 (nw1 (7 - 1))) (6 - 1))) (5 - 1))) (4 - 1))) 3 ((upd (upd (upd (upd nw1 7 (nw1 (7 - 1))) 6 ((upd nw1 7 (nw1 (7 - 1))) (6 - 1))) 5 ((upd (upd nw1 7 (nw1 (7 - 1))) 6 ((upd nw1 7 (nw1 (7 - 1))) (6 - 1))) (5 - 1))) 4 ((upd (upd (upd nw1 7 (nw1 (7 - 1))) 6 ((upd nw1 7 (nw1 (7 - 1))) (6 - 1))) 5 ((upd (upd nw1 7 (nw1 (7 - 1))) 6 ((upd nw1 7 (nw1 (7 - 1))) (6 - 1))) (5 - 1))) (4 - 1))) (3 - 1))) (2 - 1))) 1 ((upd (upd (upd (upd (upd (upd nw1 7 (nw1 (7 - 1))) 6 ((upd nw1 7 (nw1 (7 - 1))) (6 - 1))) 5 ((upd (upd nw1 7 (nw1 (7 - 1))) 6 ((upd nw1 7 (nw1 (7 - 1))) (6 - 1))) (5 - 1))) 4 ((upd (upd (upd nw1 7 (nw1 (7 - 1))) 6 ((upd nw1 7 (nw1 (7 - 1))) (6 - 1))) 5 ((upd (upd nw1 7 (nw1 (7 - 1))) 6 ((upd nw1 7 (nw1 (7 - 1))) (6 - 1))) (5 - 1))) (4 - 1))) 3 ((upd (upd (upd (upd nw1 7 (nw1 (7 - 1))) 6 ((upd nw1 7 (nw1 (7 - 1))) (6 - 1))) 5 ((upd (upd nw1 7 (nw1 (7 - 1))) 6 ((upd nw1 7 (nw1 (7 - 1))) (6 - 1))) (5 - 1))) 4 ((upd (upd (upd nw1 7 (nw1 (7 - 1))) 6 ((upd nw1 7 (nw1 (7 - 1))) (6 - 1))) 5 ((upd (upd nw1 7 (nw1 (7 - 1))) 6 ((upd nw1 7 (nw1 (7 - 1))) (6 - 1))) (5 - 1))) (4 - 1))) (3 - 1))) 2 ((upd (upd (upd (upd (upd nw1 7 (nw1 (7 - 1))) 6 ((upd nw1 7 (nw1 (7 - 1))) (6 - 1))) 5 ((upd (upd nw1 7 (nw1 (7 - 1))) 6 ((upd nw1 7 (nw1 (7 - 1))) (6 - 1))) (5 - 1))) 4 ((upd (upd (upd nw1 7 (nw1 (7 - 1))) 6 ((upd nw1 7 (nw1 (7 - 1))) (6 - 1))) 5 ((upd (upd nw1 7 (nw1 (7 - 1))) 6 ((upd nw1 7 (nw1 (7 - 1))) (6 - 1))) (5 - 1))) (4 - 1))) 3 ((upd (upd (upd (upd nw1 7 (nw1 (7 - 1))) 6 ((upd nw1 7 (nw1 (7 - 1))) (6 - 1))) 5 ((upd (upd nw1 7 (nw1 (7 - 1))) 6 ((upd nw1 7 (nw1 (7 - 1))) (6 - 1))) (5 - 1))) 4 ((upd (upd (upd nw1 7 (nw1 (7 - 1))) 6 ((upd nw1 7 (nw1 (7 - 1))) (6 - 1))) 5 ((upd (upd nw1 7 (nw1 (7 - 1))) 6 ((upd nw1 7 (nw1 (7 - 1))) (6 - 1))) (5 - 1))) (4 - 1))) (3 - 1))) (2 - 1))) (1 - 1))) 4 (((upd (upd (upd (upd (upd (upd (upd nw1 7 (nw1 (7 - 1))) 6 ((upd nw1 7 (nw1 (7 - 1))) (6 - 1))) 5 ((upd (upd nw1 7 (nw1 (7 - 1))) 6 ((upd nw1 7 (nw1 (7 - 1))) (6 - 1))) (5 - 1))) 4 ((upd (upd (upd nw1 7 (nw1 (7 - 1))) 6 ((upd nw1 7 (nw1 (7 - 1))) (6 - 1))) 5 ((upd (upd nw1 7 (nw1 (7 - 1))) 6 ((upd nw1 7 (nw1 (7 - 1))) (6 - 1))) (5 - 1))) (4 - 1))) 3 ((upd (upd (upd (upd nw1 7 (nw1 (7 - 1))) 6 ((upd nw1 7 (nw1 (7 - 1))) (6 - 1))) 5 ((upd (upd nw1 7 (nw1 (7 - 1))) 6 ((upd nw1 7 (nw1 (7 - 1))) (6 - 1))) (5 - 1))) 4 ((upd (upd (upd nw1 7 (nw1 (7 - 1))) 6 ((upd nw1 7 (nw1 (7 - 1))) (6 - 1))) 5 ((upd (upd nw1 7 (nw1 (7 - 1))) 6 ((upd nw1 7 (nw1 (7 - 1))) (6 - 1))) (5 - 1))) (4 - 1))) (3 - 1))) 2 ((upd (upd (upd (upd (upd nw1 7 (nw1 (7 - 1))) 6 ((upd nw1 7 (nw1 (7 - 1))) (6 - 1))) 5 ((upd (upd nw1 7 (nw1 (7 - 1))) 6 ((upd nw1 7 (nw1 (7 - 1))) (6 - 1))) (5 - 1))) 4 ((upd (upd (upd nw1 7 (nw1 (7 - 1))) 6 ((upd nw1 7 (nw1 (7 - 1))) (6 - 1))) 5 ((upd (upd nw1 7 (nw1 (7 - 1))) 6 ((upd nw1 7 (nw1 (7 - 1))) (6 - 1))) (5 - 1))) (4 - 1))) 3 ((upd (upd (upd (upd nw1 7 (nw1 (7 - 1))) 6 ((upd nw1 7 (nw1 (7 - 1))) (6 - 1))) 5 ((upd (upd nw1 7 (nw1 (7 - 1))) 6 ((upd nw1 7 (nw1 (7 - 1))) (6 - 1))) (5 - 1))) 4 ((upd (upd (upd nw1 7 (nw1 (7 - 1))) 6 ((upd nw1 7 (nw1 (7 - 1))) (6 - 1))) 5 ((upd (upd nw1 7 (nw1 (7 - 1))) 6 ((upd nw1 7 (nw1 (7 - 1))) (6 - 1))) (5 - 1))) (4 - 1))) (3 - 1))) (2 - 1))) 1 ((upd (upd (upd (upd (upd (upd nw1 7 (nw1 (7 - 1))) 6 ((upd nw1 7 (nw1 (7 - 1))) (6 - 1))) 5 ((upd (upd nw1 7 (nw1 (7 - 1))) 6 ((upd nw1 7 (nw1 (7 - 1))) (6 - 1))) (5 - 1))) 4 ((upd (upd (upd nw1 7 (nw1 (7 - 1))) 6 ((upd nw1 7 (nw1 (7 - 1))) (6 - 1))) 5 ((upd (upd nw1 7 (nw1 (7 - 1))) 6 ((upd nw1 7 (nw1 (7 - 1))) (6 - 1))) (5 - 1))) (4 - 1))) 3 ((upd (upd (upd (upd nw1 7 (nw1 (7 - 1))) 6 ((upd nw1 7 (nw1 (7 - 1))) (6 - 1))) 5 ((upd (upd nw1 7 (nw1 (7 - 1))) 6 ((upd nw1 7 (nw1 (7 - 1))) (6 - 1))) (5 - 1))) 4 ((upd (upd (upd nw1 7 (nw1 (7 - 1))) 6 ((upd nw1 7 (nw1 (7 - 1))) (6 - 1))) 5 ((upd (upd nw1 7 (nw1 (7 - 1))) 6 ((upd nw1 7 (nw1 (7 - 1))) (6 - 1))) (5 - 1))) (4 - 1))) (3 - 1))) 2 ((upd (upd (upd (upd (upd nw1 7 (nw1 (7 - 1))) 6 ((upd nw1 7 (nw1 (7 - 1))) (6 - 1))) 5 ((upd (upd nw1 7 (nw1 (7 - 1))) 6 ((upd nw1 7 (nw1 (7 - 1))) (6 - 1))) (5 - 1))) 4 ((upd (upd (upd nw1 7 (nw1 (7 - 1))) 6 ((upd nw1 7 (nw1 (7 - 1))) (6 - 1))) 5 ((upd (upd nw1 7 (nw1 (7 - 1))) 6 ((upd nw1 7 (nw1 (7 - 1))) (6 - 1))) (5 - 1))) (4 - 1))) 3 ((upd (upd (upd (upd nw1 7 (nw1 (7 - 1))) 6 ((upd nw1 7 (nw1 (7 - 1))) (6 - 1))) 5 ((upd (upd nw1 7 (nw1 (7 - 1))) 6 ((upd nw1 7 (nw1 (7 - 1))) (6 - 1))) (5 - 1))) 4 ((upd (upd (upd nw1 7 (nw1 (7 - 1))) 6 ((upd nw1 7 (nw1 (7 - 1))) (6 - 1))) 5 ((upd (upd nw1 7 (nw1 (7 - 1))) 6 ((upd nw1 7 (nw1 (7 - 1))) (6 - 1))) (5 - 1))) (4 - 1))) (3 - 1))) (2 - 1))) (1 - 1))) 4) + (u9 (kCu t) (sc9 rw bk t) nw1))) 0 ((u9 (kCu t) (sc9 rw bk t) nw1) + (v9 nw1))))) C wd_eq 0 rfl (by decide) (by decide) dX8_mix_389 rfl wd_ss ?_
      refine r_iinc (q := 393) (v := nI (t + 1)) (lv' := [(2, .int (nI (t + 1))), (7, .int (nI 0)), (6, .int (v9 nw1)), (5, .int (u9 (kCu t) (sc9 rw bk t) nw1)), (4, .int (nw1 0)), (3, .int (nw1 4)), (0, .ref m0), (1, .int (nI bk))]) C 5 dX8_mix_390 rfl (nI_1 t) (by decide) rfl rfl ?_
      refine r_goto (tgt := 189) C dX8_mix_393 (by decide) ?_
      refine r_sub (lv' := [(2, .int (nI (t + 1))), (0, .ref m0), (1, .int (nI bk))]) [0, 6, 7] rfl ?_
      refine ih (t + 1) _ _ _ _ (by omega) ((wd_ne (by decide)).trans g13) wd_eq ((wd_ne (by decide)).trans g15) hst (fun j hj => ?_) hwd (gf.trans (Fr.set (by decide) (by decide)))
      have c : j = 0 ∨ j = 1 ∨ j = 2 ∨ j = 3 ∨ j = 4 ∨ j = 5 ∨ j = 6 ∨ j = 7 := by omega
      have eu : u9 (kCu t) (sc9 rw bk t) nw1 = u9 (kCu t) (sc9 rw bk t) (rds (sc9 rw bk) t st) := by unfold u9; rw [hnw 7 (by decide), hnw 4 (by decide), hnw 5 (by decide), hnw 6 (by decide)]
      have ev : v9 nw1 = v9 (rds (sc9 rw bk) t st) := by unfold v9; rw [hnw 0 (by decide), hnw 1 (by decide), hnw 2 (by decide)]
      rw [eu, ev]
      rcases c with rfl | rfl | rfl | rfl | rfl | rfl | rfl | rfl
      · rfl
      · exact hnw 0 (by decide)
      · exact hnw 1 (by decide)
      · exact hnw 2 (by decide)
      · show nw1 3 + _ = rds (sc9 rw bk) t st 3 + _
        rw [hnw 3 (by decide)]
      · exact hnw 4 (by decide)
      · exact hnw 5 (by decide)
      · exact hnw 6 (by decide)
  have loop2 : ∀ (r t : Nat) (st1 nw1 wd1 : Nat → Int32) (w1 : wd_T), t + r = 8 → (w1 13 = some (ad 13, aI g 8 st1)) → (w1 14 = some (ad 14, aI g 8 nw1)) → (w1 15 = some (ad 15, aI g 64 wd1)) → (∀ j, j < 8 → st1 j = st j) → (∀ j, j < t → nw1 j = st j) → (∀ j, j < 64 → wd1 j = sc9 rw bk j) → (Fr w w1 13 16) → V g k 8 w1 0 0 (kQ g k (fun v w' => v = none ∧ (∃ st' nw' wd' : Nat → Int32, w' 13 = some (ad 13, aI g 8 st') ∧ w' 14 = some (ad 14, aI g 8 nw') ∧ w' 15 = some (ad 15, aI g 64 wd') ∧ ∀ j, j < 8 → st' j = cmp9 rw bk st j) ∧ Fr w w' 13 16) 0 0) 163 [(2, .int (nI t)), (0, .ref m0), (1, .int (nI bk))] [] := by
    intro r
    induction r with
    | zero =>
      intro t st1 nw1 wd1 w1 hi g13 g14 g15 hst hnw hwd gf
      refine r_iload_n (q := 164) C 0 dX8_mix_163 rfl rfl ?_
      refine r_bipush (q := 166) C (nI 8) dX8_mix_164 (by decide) rfl ?_
      refine r_icmp_ge_t (tgt := 187) C dX8_mix_166 (by decide) ((nI_leI (a := 8) (b := t) (by omega) (by omega)).mpr (by omega)) ?_
      obtain rfl : t = 8 := by omega
      refine r_iconst (q := 188) C (nI 0) dX8_mix_187 (by decide) rfl ?_
      refine r_istore_n (q := 189) (lv' := [(2, .int (nI 0)), (0, .ref m0), (1, .int (nI bk))]) C dX8_mix_188 (by decide) rfl rfl ?_
      refine r_sub (lv' := [(2, .int (nI 0)), (0, .ref m0), (1, .int (nI bk))]) [0, 1, 2] rfl ?_
      exact loop3 64 0 st1 nw1 wd1 w1 (by omega) g13 g14 g15 hst (fun j hj => hnw j (by omega)) hwd gf
    | succ r ih =>
      intro t st1 nw1 wd1 w1 hi g13 g14 g15 hst hnw hwd gf
      refine r_iload_n (q := 164) C 0 dX8_mix_163 rfl rfl ?_
      refine r_bipush (q := 166) C (nI 8) dX8_mix_164 (by decide) rfl ?_
      refine r_icmp_ge_f (q := 169) (tgt := 187) C dX8_mix_166 (by decide) rfl (fun z => absurd ((nI_leI (a := 8) (b := t) (by omega) (by omega)).mp z) (by omega)) ?_
      refine r_aload_n (q := 170) C 1 dX8_mix_169 rfl rfl ?_
      refine r_get (q := 173) (t := 0) C koX8 ((gf 0 (by decide)).trans h0) 20 (by decide) q720 rfl rfl dX8_mix_170 rfl ?_
      refine r_iload_n (q := 174) C 0 dX8_mix_173 rfl rfl ?_
      refine r_aload_n (q := 175) C 1 dX8_mix_174 rfl rfl ?_
      refine r_get (q := 178) (t := 0) C koX8 ((gf 0 (by decide)).trans h0) 19 (by decide) q719 rfl rfl dX8_mix_175 rfl ?_
      refine r_iload_n (q := 179) C 0 dX8_mix_178 rfl rfl ?_
      refine r_iald (q := 180) (t := 13) C g13 t rfl (by omega) (by decide) dX8_mix_179 rfl ?_
      refine r_iast (q := 181) (t := 14) (w' := wd_set w1 14 (ad 14) (aI g 8 (upd nw1 t (st1 t)))) C g14 t rfl (by omega) (by decide) dX8_mix_180 rfl rfl ?_
      refine r_iinc (q := 184) (v := nI (t + 1)) (lv' := [(2, .int (nI (t + 1))), (0, .ref m0), (1, .int (nI bk))]) C 0 dX8_mix_181 rfl (nI_1 t) (by decide) rfl rfl ?_
      refine r_goto (tgt := 163) C dX8_mix_184 (by decide) ?_
      refine r_sub (lv' := [(2, .int (nI (t + 1))), (0, .ref m0), (1, .int (nI bk))]) [0, 1, 2] rfl ?_
      refine ih (t + 1) _ _ _ _ (by omega) ((wd_ne (by decide)).trans g13) wd_eq ((wd_ne (by decide)).trans g15) hst (fun j hj => ?_) hwd (gf.trans (Fr.set (by decide) (by decide)))
      unfold upd
      by_cases z : j = t
      · rw [if_pos z, ← z, hst j (by omega)]
      · rw [if_neg z, hnw j (by omega)]
  refine r_iconst (q := 1) C (nI 0) dX8_mix_0 (by decide) rfl ?_
  refine r_istore_n (q := 2) (lv' := [(2, .int (nI 0)), (0, .ref m0), (1, .int (nI bk))]) C dX8_mix_1 (by decide) rfl rfl ?_
  refine r_sub (lv' := [(2, .int (nI 0)), (0, .ref m0), (1, .int (nI bk))]) [0, 1, 2] rfl ?_
  have loop1 : ∀ (r t : Nat) (st1 nw1 wd1 : Nat → Int32) (w1 : wd_T), t + r = 64 → (w1 13 = some (ad 13, aI g 8 st1)) → (w1 14 = some (ad 14, aI g 8 nw1)) → (w1 15 = some (ad 15, aI g 64 wd1)) → (∀ j, j < 8 → st1 j = st j) → (∀ j, j < t → wd1 j = sc9 rw bk j) → (Fr w w1 13 16) → V g k 8 w1 0 0 (kQ g k (fun v w' => v = none ∧ (∃ st' nw' wd' : Nat → Int32, w' 13 = some (ad 13, aI g 8 st') ∧ w' 14 = some (ad 14, aI g 8 nw') ∧ w' 15 = some (ad 15, aI g 64 wd') ∧ ∀ j, j < 8 → st' j = cmp9 rw bk st j) ∧ Fr w w' 13 16) 0 0) 2 [(2, .int (nI t)), (0, .ref m0), (1, .int (nI bk))] [] := by
    intro r
    induction r with
    | zero =>
      intro t st1 nw1 wd1 w1 hi g13 g14 g15 hst hwd gf
      refine r_iload_n (q := 3) C 0 dX8_mix_2 rfl rfl ?_
      refine r_bipush (q := 5) C (nI 64) dX8_mix_3 (by decide) rfl ?_
      refine r_icmp_ge_t (tgt := 161) C dX8_mix_5 (by decide) ((nI_leI (a := 64) (b := t) (by omega) (by omega)).mpr (by omega)) ?_
      obtain rfl : t = 64 := by omega
      refine r_iconst (q := 162) C (nI 0) dX8_mix_161 (by decide) rfl ?_
      refine r_istore_n (q := 163) (lv' := [(2, .int (nI 0)), (0, .ref m0), (1, .int (nI bk))]) C dX8_mix_162 (by decide) rfl rfl ?_
      refine r_sub (lv' := [(2, .int (nI 0)), (0, .ref m0), (1, .int (nI bk))]) [0, 1, 2] rfl ?_
      exact loop2 8 0 st1 nw1 wd1 w1 (by omega) g13 g14 g15 hst (fun j hj => absurd hj (Nat.not_lt_zero j)) hwd gf
    | succ r ih =>
      intro t st1 nw1 wd1 w1 hi g13 g14 g15 hst hwd gf
      refine r_iload_n (q := 3) C 0 dX8_mix_2 rfl rfl ?_
      refine r_bipush (q := 5) C (nI 64) dX8_mix_3 (by decide) rfl ?_
      refine r_icmp_ge_f (q := 8) (tgt := 161) C dX8_mix_5 (by decide) rfl (fun z => absurd ((nI_leI (a := 64) (b := t) (by omega) (by omega)).mp z) (by omega)) ?_
      refine r_iload_n (q := 9) C 0 dX8_mix_8 rfl rfl ?_
      refine r_bipush (q := 11) C (nI 16) dX8_mix_9 (by decide) rfl ?_
      refine r_icmp_ge (q := 14) (tgt := 70) C dX8_mix_11 (by decide) rfl (fun hc11 => ?_) (fun hc11 => ?_)
      · have hc11 : 16 ≤ t := (nI_leI (a := 16) (b := t) (by omega) (by omega)).mp hc11
        refine r_aload_n (q := 71) C 1 dX8_mix_70 rfl rfl ?_
        refine r_get (q := 74) (t := 0) C koX8 ((gf 0 (by decide)).trans h0) 21 (by decide) q721 rfl rfl dX8_mix_71 rfl ?_
        refine r_iload_n (q := 75) C 0 dX8_mix_74 rfl rfl ?_
        refine r_bipush (q := 77) C (nI 15) dX8_mix_75 (by decide) rfl ?_
        refine r_isub (q := 78) C dX8_mix_77 rfl ?_
        refine r_ti (show ((nI t) - (nI 15) : Int32) = nI (t - 15) from pk_sub (by omega)) ?_
        refine r_iald (q := 79) (t := 15) C g15 (t - 15) rfl (by omega) (by decide) dX8_mix_78 rfl ?_
        refine r_istore_n (q := 80) (lv' := [(3, .int (wd1 (t - 15))), (2, .int (nI t)), (0, .ref m0), (1, .int (nI bk))]) C dX8_mix_79 (by decide) rfl rfl ?_
        refine r_aload_n (q := 81) C 2 dX8_mix_80 rfl rfl ?_
        refine r_get (q := 84) (t := 0) C koX8 ((gf 0 (by decide)).trans h0) 21 (by decide) q721 rfl rfl dX8_mix_81 rfl ?_
        refine r_iload_n (q := 85) C 1 dX8_mix_84 rfl rfl ?_
        refine r_iconst (q := 86) C (nI 2) dX8_mix_85 (by decide) rfl ?_
        refine r_isub (q := 87) C dX8_mix_86 rfl ?_
        refine r_ti (show ((nI t) - (nI 2) : Int32) = nI (t - 2) from pk_sub (by omega)) ?_
        refine r_iald (q := 88) (t := 15) C g15 (t - 2) rfl (by omega) (by decide) dX8_mix_87 rfl ?_
        refine r_istore (q := 90) (lv' := [(4, .int (wd1 (t - 2))), (3, .int (wd1 (t - 15))), (2, .int (nI t)), (0, .ref m0), (1, .int (nI bk))]) C dX8_mix_88 (by decide) rfl rfl ?_
        refine r_aload_n (q := 91) C 3 dX8_mix_90 rfl rfl ?_
        refine r_get (q := 94) (t := 0) C koX8 ((gf 0 (by decide)).trans h0) 21 (by decide) q721 rfl rfl dX8_mix_91 rfl ?_
        refine r_iload_n (q := 95) C 2 dX8_mix_94 rfl rfl ?_
        refine r_iload (q := 97) C 0 dX8_mix_95 rfl rfl ?_
        refine r_bipush (q := 99) C (nI 17) dX8_mix_97 (by decide) rfl ?_
        refine r_callS (q := 102) (As := [.int (wd1 (t - 2)), .int (nI 17)]) (st := [.int (nI t), .ref (ad 15)]) C (m_rot) q839 q837 q838 q9 ⟨by decide, by decide⟩ (show (parseMethodDescriptor yX8_rot.desc).map (fun d => d.parameters.length) = some 2 by decide +kernel) (by decide) (by decide) (by decide) (by decide) (Nat.le_of_ble_eq_true rfl) rfl dX8_mix_99 rfl ?_
        rintro v9 w13 ⟨rfl, rfl⟩
        show V g k 8 w1 0 0 (kQ g k (fun v w' => v = none ∧ (∃ st' nw' wd' : Nat → Int32, w' 13 = some (ad 13, aI g 8 st') ∧ w' 14 = some (ad 14, aI g 8 nw') ∧ w' 15 = some (ad 15, aI g 64 wd') ∧ ∀ j, j < 8 → st' j = cmp9 rw bk st j) ∧ Fr w w' 13 16) 0 0) 102 [(4, .int (wd1 (t - 2))), (3, .int (wd1 (t - 15))), (2, .int (nI t)), (0, .ref m0), (1, .int (nI bk))] [.int (rot9 (wd1 (t - 2)) (nI 17)), .int (nI t), .ref (ad 15)]
        refine r_iload (q := 104) C 0 dX8_mix_102 rfl rfl ?_
        refine r_bipush (q := 106) C (nI 19) dX8_mix_104 (by decide) rfl ?_
        refine r_callS (q := 109) (As := [.int (wd1 (t - 2)), .int (nI 19)]) (st := [.int (rot9 (wd1 (t - 2)) (nI 17)), .int (nI t), .ref (ad 15)]) C (m_rot) q839 q837 q838 q9 ⟨by decide, by decide⟩ (show (parseMethodDescriptor yX8_rot.desc).map (fun d => d.parameters.length) = some 2 by decide +kernel) (by decide) (by decide) (by decide) (by decide) (Nat.le_of_ble_eq_true rfl) rfl dX8_mix_106 rfl ?_
        rintro v9 w14 ⟨rfl, rfl⟩
        show V g k 8 w1 0 0 (kQ g k (fun v w' => v = none ∧ (∃ st' nw' wd' : Nat → Int32, w' 13 = some (ad 13, aI g 8 st') ∧ w' 14 = some (ad 14, aI g 8 nw') ∧ w' 15 = some (ad 15, aI g 64 wd') ∧ ∀ j, j < 8 → st' j = cmp9 rw bk st j) ∧ Fr w w' 13 16) 0 0) 109 [(4, .int (wd1 (t - 2))), (3, .int (wd1 (t - 15))), (2, .int (nI t)), (0, .ref m0), (1, .int (nI bk))] [.int (rot9 (wd1 (t - 2)) (nI 19)), .int (rot9 (wd1 (t - 2)) (nI 17)), .int (nI t), .ref (ad 15)]
        refine r_ixor (q := 110) C dX8_mix_109 rfl ?_
        refine r_iload (q := 112) C 0 dX8_mix_110 rfl rfl ?_
        refine r_bipush (q := 114) C (nI 10) dX8_mix_112 (by decide) rfl ?_
        refine r_iushr (q := 115) C dX8_mix_114 rfl ?_
        refine r_ixor (q := 116) C dX8_mix_115 rfl ?_
        refine r_aload_n (q := 117) C 3 dX8_mix_116 rfl rfl ?_
        refine r_get (q := 120) (t := 0) C koX8 ((gf 0 (by decide)).trans h0) 21 (by decide) q721 rfl rfl dX8_mix_117 rfl ?_
        refine r_iload_n (q := 121) C 2 dX8_mix_120 rfl rfl ?_
        refine r_bipush (q := 123) C (nI 7) dX8_mix_121 (by decide) rfl ?_
        refine r_isub (q := 124) C dX8_mix_123 rfl ?_
        refine r_ti (show ((nI t) - (nI 7) : Int32) = nI (t - 7) from pk_sub (by omega)) ?_
        refine r_iald (q := 125) (t := 15) C g15 (t - 7) rfl (by omega) (by decide) dX8_mix_124 rfl ?_
        refine r_iadd (q := 126) C dX8_mix_125 rfl ?_
        refine r_iload_n (q := 127) C 1 dX8_mix_126 rfl rfl ?_
        refine r_bipush (q := 129) C (nI 7) dX8_mix_127 (by decide) rfl ?_
        refine r_callS (q := 132) (As := [.int (wd1 (t - 15)), .int (nI 7)]) (st := [.int ((((rot9 (wd1 (t - 2)) (nI 17)) ^^^ (rot9 (wd1 (t - 2)) (nI 19))) ^^^ (((wd1 (t - 2)).toUInt32 >>> ((nI 10).toUInt32 &&& Int32.toUInt32 31)).toInt32)) + (wd1 (t - 7))), .int (nI t), .ref (ad 15)]) C (m_rot) q839 q837 q838 q9 ⟨by decide, by decide⟩ (show (parseMethodDescriptor yX8_rot.desc).map (fun d => d.parameters.length) = some 2 by decide +kernel) (by decide) (by decide) (by decide) (by decide) (Nat.le_of_ble_eq_true rfl) rfl dX8_mix_129 rfl ?_
        rintro v9 w15 ⟨rfl, rfl⟩
        show V g k 8 w1 0 0 (kQ g k (fun v w' => v = none ∧ (∃ st' nw' wd' : Nat → Int32, w' 13 = some (ad 13, aI g 8 st') ∧ w' 14 = some (ad 14, aI g 8 nw') ∧ w' 15 = some (ad 15, aI g 64 wd') ∧ ∀ j, j < 8 → st' j = cmp9 rw bk st j) ∧ Fr w w' 13 16) 0 0) 132 [(4, .int (wd1 (t - 2))), (3, .int (wd1 (t - 15))), (2, .int (nI t)), (0, .ref m0), (1, .int (nI bk))] [.int (rot9 (wd1 (t - 15)) (nI 7)), .int ((((rot9 (wd1 (t - 2)) (nI 17)) ^^^ (rot9 (wd1 (t - 2)) (nI 19))) ^^^ (((wd1 (t - 2)).toUInt32 >>> ((nI 10).toUInt32 &&& Int32.toUInt32 31)).toInt32)) + (wd1 (t - 7))), .int (nI t), .ref (ad 15)]
        refine r_iload_n (q := 133) C 1 dX8_mix_132 rfl rfl ?_
        refine r_bipush (q := 135) C (nI 18) dX8_mix_133 (by decide) rfl ?_
        refine r_callS (q := 138) (As := [.int (wd1 (t - 15)), .int (nI 18)]) (st := [.int (rot9 (wd1 (t - 15)) (nI 7)), .int ((((rot9 (wd1 (t - 2)) (nI 17)) ^^^ (rot9 (wd1 (t - 2)) (nI 19))) ^^^ (((wd1 (t - 2)).toUInt32 >>> ((nI 10).toUInt32 &&& Int32.toUInt32 31)).toInt32)) + (wd1 (t - 7))), .int (nI t), .ref (ad 15)]) C (m_rot) q839 q837 q838 q9 ⟨by decide, by decide⟩ (show (parseMethodDescriptor yX8_rot.desc).map (fun d => d.parameters.length) = some 2 by decide +kernel) (by decide) (by decide) (by decide) (by decide) (Nat.le_of_ble_eq_true rfl) rfl dX8_mix_135 rfl ?_
        rintro v9 w16 ⟨rfl, rfl⟩
        show V g k 8 w1 0 0 (kQ g k (fun v w' => v = none ∧ (∃ st' nw' wd' : Nat → Int32, w' 13 = some (ad 13, aI g 8 st') ∧ w' 14 = some (ad 14, aI g 8 nw') ∧ w' 15 = some (ad 15, aI g 64 wd') ∧ ∀ j, j < 8 → st' j = cmp9 rw bk st j) ∧ Fr w w' 13 16) 0 0) 138 [(4, .int (wd1 (t - 2))), (3, .int (wd1 (t - 15))), (2, .int (nI t)), (0, .ref m0), (1, .int (nI bk))] [.int (rot9 (wd1 (t - 15)) (nI 18)), .int (rot9 (wd1 (t - 15)) (nI 7)), .int ((((rot9 (wd1 (t - 2)) (nI 17)) ^^^ (rot9 (wd1 (t - 2)) (nI 19))) ^^^ (((wd1 (t - 2)).toUInt32 >>> ((nI 10).toUInt32 &&& Int32.toUInt32 31)).toInt32)) + (wd1 (t - 7))), .int (nI t), .ref (ad 15)]
        refine r_ixor (q := 139) C dX8_mix_138 rfl ?_
        refine r_iload_n (q := 140) C 1 dX8_mix_139 rfl rfl ?_
        refine r_iconst (q := 141) C (nI 3) dX8_mix_140 (by decide) rfl ?_
        refine r_iushr (q := 142) C dX8_mix_141 rfl ?_
        refine r_ixor (q := 143) C dX8_mix_142 rfl ?_
        refine r_iadd (q := 144) C dX8_mix_143 rfl ?_
        refine r_aload_n (q := 145) C 3 dX8_mix_144 rfl rfl ?_
        refine r_get (q := 148) (t := 0) C koX8 ((gf 0 (by decide)).trans h0) 21 (by decide) q721 rfl rfl dX8_mix_145 rfl ?_
        refine r_iload_n (q := 149) C 2 dX8_mix_148 rfl rfl ?_
        refine r_bipush (q := 151) C (nI 16) dX8_mix_149 (by decide) rfl ?_
        refine r_isub (q := 152) C dX8_mix_151 rfl ?_
        refine r_ti (show ((nI t) - (nI 16) : Int32) = nI (t - 16) from pk_sub (by omega)) ?_
        refine r_iald (q := 153) (t := 15) C g15 (t - 16) rfl (by omega) (by decide) dX8_mix_152 rfl ?_
        refine r_iadd (q := 154) C dX8_mix_153 rfl ?_
        refine r_ti (show ((((((rot9 (wd1 (t - 2)) (nI 17)) ^^^ (rot9 (wd1 (t - 2)) (nI 19))) ^^^ (((wd1 (t - 2)).toUInt32 >>> ((nI 10).toUInt32 &&& Int32.toUInt32 31)).toInt32)) + (wd1 (t - 7))) + (((rot9 (wd1 (t - 15)) (nI 7)) ^^^ (rot9 (wd1 (t - 15)) (nI 18))) ^^^ (((wd1 (t - 15)).toUInt32 >>> ((nI 3).toUInt32 &&& Int32.toUInt32 31)).toInt32))) + (wd1 (t - 16)) : Int32) = ((lat9 (wd1 (t - 2)) + wd1 (t - 7)) + ear9 (wd1 (t - 15))) + wd1 (t - 16) from rfl) ?_
        refine r_iast (q := 155) (t := 15) (w' := wd_set w1 15 (ad 15) (aI g 64 (upd wd1 t (((lat9 (wd1 (t - 2)) + wd1 (t - 7)) + ear9 (wd1 (t - 15))) + wd1 (t - 16))))) C g15 t rfl (by omega) (by decide) dX8_mix_154 rfl rfl ?_
        refine r_iinc (q := 158) (v := nI (t + 1)) (lv' := [(2, .int (nI (t + 1))), (4, .int (wd1 (t - 2))), (3, .int (wd1 (t - 15))), (0, .ref m0), (1, .int (nI bk))]) C 2 dX8_mix_155 rfl (nI_1 t) (by decide) rfl rfl ?_
        refine r_goto (tgt := 2) C dX8_mix_158 (by decide) ?_
        refine r_sub (lv' := [(2, .int (nI (t + 1))), (0, .ref m0), (1, .int (nI bk))]) [0, 3, 4] rfl ?_
        exact ih (t + 1) _ _ _ _ (by omega) ((wd_ne (by decide)).trans g13) ((wd_ne (by decide)).trans g14) wd_eq hst (sc9_st1 hwd (by omega)) (gf.trans (Fr.set (by decide) (by decide)))
      · have hc11 : ¬ 16 ≤ t := fun z => hc11 ((nI_leI (a := 16) (b := t) (by omega) (by omega)).mpr z)
        refine r_aload_n (q := 15) C 1 dX8_mix_14 rfl rfl ?_
        refine r_get (q := 18) (t := 0) C koX8 ((gf 0 (by decide)).trans h0) 21 (by decide) q721 rfl rfl dX8_mix_15 rfl ?_
        refine r_iload_n (q := 19) C 0 dX8_mix_18 rfl rfl ?_
        refine r_iconst (q := 20) C (nI 0) dX8_mix_19 (by decide) rfl ?_
        refine r_iast (q := 21) (t := 15) (w' := wd_set w1 15 (ad 15) (aI g 64 (upd wd1 t (nI 0)))) C g15 t rfl (by omega) (by decide) dX8_mix_20 rfl rfl ?_
        refine r_iconst (q := 22) C (nI 0) dX8_mix_21 (by decide) rfl ?_
        refine r_istore_n (q := 23) (lv' := [(3, .int (nI 0)), (2, .int (nI t)), (0, .ref m0), (1, .int (nI bk))]) C dX8_mix_22 (by decide) rfl rfl ?_
        refine r_iload_n (q := 24) C 0 dX8_mix_23 rfl rfl ?_
        refine r_iconst (q := 25) C (nI 4) dX8_mix_24 (by decide) rfl ?_
        refine r_icmp_ge_f (q := 28) (tgt := 67) C dX8_mix_25 (by decide) rfl (fun z => absurd ((nI_leI (a := 4) (b := 0) (by omega) (by omega)).mp z) (by omega)) ?_
        refine r_aload_n (q := 29) C 2 dX8_mix_28 rfl rfl ?_
        refine r_get (q := 32) (t := 0) C koX8 ((wd_ne (by decide)).trans ((gf 0 (by decide)).trans h0)) 21 (by decide) q721 rfl rfl dX8_mix_29 rfl ?_
        refine r_iload_n (q := 33) C 1 dX8_mix_32 rfl rfl ?_
        refine r_aload_n (q := 34) C 2 dX8_mix_33 rfl rfl ?_
        refine r_get (q := 37) (t := 0) C koX8 ((wd_ne (by decide)).trans ((gf 0 (by decide)).trans h0)) 21 (by decide) q721 rfl rfl dX8_mix_34 rfl ?_
        refine r_iload_n (q := 38) C 1 dX8_mix_37 rfl rfl ?_
        refine r_iald (q := 39) (t := 15) C wd_eq t rfl (by omega) (by decide) dX8_mix_38 rfl ?_
        refine r_ti (show ((upd wd1 t (nI 0)) t : Int32) = nI 0 from pk_us) ?_
        refine r_sipush (q := 42) C (nI 256) dX8_mix_39 (by decide) rfl ?_
        refine r_imul (q := 43) C dX8_mix_42 rfl ?_
        refine r_aload_n (q := 44) C 2 dX8_mix_43 rfl rfl ?_
        refine r_get (q := 47) (t := 0) C koX8 ((wd_ne (by decide)).trans ((gf 0 (by decide)).trans h0)) 16 (by decide) q716 rfl rfl dX8_mix_44 rfl ?_
        refine r_iload_n (q := 48) C 3 dX8_mix_47 rfl rfl ?_
        refine r_iconst (q := 49) C (nI 4) dX8_mix_48 (by decide) rfl ?_
        refine r_iload_n (q := 50) C 1 dX8_mix_49 rfl rfl ?_
        refine r_imul (q := 51) C dX8_mix_50 rfl ?_
        refine r_ti (show ((nI 4) * (nI t) : Int32) = nI (4 * t) from pk_mul 4 t) ?_
        refine r_iadd (q := 52) C dX8_mix_51 rfl ?_
        refine r_ti (show ((nI bk) + (nI (4 * t)) : Int32) = nI (bk + (4 * t)) from nI_add bk (4 * t)) ?_
        refine r_iload_n (q := 53) C 0 dX8_mix_52 rfl rfl ?_
        refine r_iadd (q := 54) C dX8_mix_53 rfl ?_
        refine r_ti (show ((nI (bk + (4 * t))) + (nI 0) : Int32) = nI (bk + (4 * t) + 0) from nI_add (bk + (4 * t)) 0) ?_
        refine r_bald (q := 55) (t := 11) C ((wd_ne (by decide)).trans ((gf 11 (by decide)).trans h11)) (bk + (4 * t) + 0) rfl (by omega) (by decide) dX8_mix_54 rfl ?_
        refine r_sipush (q := 58) C (nI 255) dX8_mix_55 (by decide) rfl ?_
        refine r_iand (q := 59) C dX8_mix_58 rfl ?_
        refine r_iadd (q := 60) C dX8_mix_59 rfl ?_
        refine r_ti (show (((nI 0) * (nI 256)) + ((rw (bk + (4 * t) + 0)) &&& (nI 255)) : Int32) = wb9 (nI 0) (rw (bk + 4 * t + 0)) from wb9_m _ _) ?_
        refine r_iast (q := 61) (t := 15) (w' := wd_set w1 15 (ad 15) (aI g 64 (upd (upd wd1 t (nI 0)) t (wb9 (nI 0) (rw (bk + 4 * t + 0)))))) C wd_eq t rfl (by omega) (by decide) dX8_mix_60 rfl wd_ss ?_
        refine r_iinc (q := 64) (v := nI 1) (lv' := [(3, .int (nI 1)), (2, .int (nI t)), (0, .ref m0), (1, .int (nI bk))]) C 0 dX8_mix_61 rfl (nI_1 0) (by decide) rfl rfl ?_
        refine r_goto (tgt := 23) C dX8_mix_64 (by decide) ?_
        refine r_iload_n (q := 24) C 0 dX8_mix_23 rfl rfl ?_
        refine r_iconst (q := 25) C (nI 4) dX8_mix_24 (by decide) rfl ?_
        refine r_icmp_ge_f (q := 28) (tgt := 67) C dX8_mix_25 (by decide) rfl (fun z => absurd ((nI_leI (a := 4) (b := 1) (by omega) (by omega)).mp z) (by omega)) ?_
        refine r_aload_n (q := 29) C 2 dX8_mix_28 rfl rfl ?_
        refine r_get (q := 32) (t := 0) C koX8 ((wd_ne (by decide)).trans ((gf 0 (by decide)).trans h0)) 21 (by decide) q721 rfl rfl dX8_mix_29 rfl ?_
        refine r_iload_n (q := 33) C 1 dX8_mix_32 rfl rfl ?_
        refine r_aload_n (q := 34) C 2 dX8_mix_33 rfl rfl ?_
        refine r_get (q := 37) (t := 0) C koX8 ((wd_ne (by decide)).trans ((gf 0 (by decide)).trans h0)) 21 (by decide) q721 rfl rfl dX8_mix_34 rfl ?_
        refine r_iload_n (q := 38) C 1 dX8_mix_37 rfl rfl ?_
        refine r_iald (q := 39) (t := 15) C wd_eq t rfl (by omega) (by decide) dX8_mix_38 rfl ?_
        refine r_ti (show ((upd (upd wd1 t (nI 0)) t (wb9 (nI 0) (rw (bk + 4 * t + 0)))) t : Int32) = wb9 (nI 0) (rw (bk + 4 * t + 0)) from pk_us) ?_
        refine r_sipush (q := 42) C (nI 256) dX8_mix_39 (by decide) rfl ?_
        refine r_imul (q := 43) C dX8_mix_42 rfl ?_
        refine r_aload_n (q := 44) C 2 dX8_mix_43 rfl rfl ?_
        refine r_get (q := 47) (t := 0) C koX8 ((wd_ne (by decide)).trans ((gf 0 (by decide)).trans h0)) 16 (by decide) q716 rfl rfl dX8_mix_44 rfl ?_
        refine r_iload_n (q := 48) C 3 dX8_mix_47 rfl rfl ?_
        refine r_iconst (q := 49) C (nI 4) dX8_mix_48 (by decide) rfl ?_
        refine r_iload_n (q := 50) C 1 dX8_mix_49 rfl rfl ?_
        refine r_imul (q := 51) C dX8_mix_50 rfl ?_
        refine r_ti (show ((nI 4) * (nI t) : Int32) = nI (4 * t) from pk_mul 4 t) ?_
        refine r_iadd (q := 52) C dX8_mix_51 rfl ?_
        refine r_ti (show ((nI bk) + (nI (4 * t)) : Int32) = nI (bk + (4 * t)) from nI_add bk (4 * t)) ?_
        refine r_iload_n (q := 53) C 0 dX8_mix_52 rfl rfl ?_
        refine r_iadd (q := 54) C dX8_mix_53 rfl ?_
        refine r_ti (show ((nI (bk + (4 * t))) + (nI 1) : Int32) = nI (bk + (4 * t) + 1) from nI_add (bk + (4 * t)) 1) ?_
        refine r_bald (q := 55) (t := 11) C ((wd_ne (by decide)).trans ((gf 11 (by decide)).trans h11)) (bk + (4 * t) + 1) rfl (by omega) (by decide) dX8_mix_54 rfl ?_
        refine r_sipush (q := 58) C (nI 255) dX8_mix_55 (by decide) rfl ?_
        refine r_iand (q := 59) C dX8_mix_58 rfl ?_
        refine r_iadd (q := 60) C dX8_mix_59 rfl ?_
        refine r_ti (show (((wb9 (nI 0) (rw (bk + 4 * t + 0))) * (nI 256)) + ((rw (bk + (4 * t) + 1)) &&& (nI 255)) : Int32) = wb9 (wb9 (nI 0) (rw (bk + 4 * t + 0))) (rw (bk + 4 * t + 1)) from wb9_m _ _) ?_
        refine r_iast (q := 61) (t := 15) (w' := wd_set w1 15 (ad 15) (aI g 64 (upd (upd (upd wd1 t (nI 0)) t (wb9 (nI 0) (rw (bk + 4 * t + 0)))) t (wb9 (wb9 (nI 0) (rw (bk + 4 * t + 0))) (rw (bk + 4 * t + 1)))))) C wd_eq t rfl (by omega) (by decide) dX8_mix_60 rfl wd_ss ?_
        refine r_iinc (q := 64) (v := nI 2) (lv' := [(3, .int (nI 2)), (2, .int (nI t)), (0, .ref m0), (1, .int (nI bk))]) C 0 dX8_mix_61 rfl (nI_1 1) (by decide) rfl rfl ?_
        refine r_goto (tgt := 23) C dX8_mix_64 (by decide) ?_
        refine r_iload_n (q := 24) C 0 dX8_mix_23 rfl rfl ?_
        refine r_iconst (q := 25) C (nI 4) dX8_mix_24 (by decide) rfl ?_
        refine r_icmp_ge_f (q := 28) (tgt := 67) C dX8_mix_25 (by decide) rfl (fun z => absurd ((nI_leI (a := 4) (b := 2) (by omega) (by omega)).mp z) (by omega)) ?_
        refine r_aload_n (q := 29) C 2 dX8_mix_28 rfl rfl ?_
        refine r_get (q := 32) (t := 0) C koX8 ((wd_ne (by decide)).trans ((gf 0 (by decide)).trans h0)) 21 (by decide) q721 rfl rfl dX8_mix_29 rfl ?_
        refine r_iload_n (q := 33) C 1 dX8_mix_32 rfl rfl ?_
        refine r_aload_n (q := 34) C 2 dX8_mix_33 rfl rfl ?_
        refine r_get (q := 37) (t := 0) C koX8 ((wd_ne (by decide)).trans ((gf 0 (by decide)).trans h0)) 21 (by decide) q721 rfl rfl dX8_mix_34 rfl ?_
        refine r_iload_n (q := 38) C 1 dX8_mix_37 rfl rfl ?_
        refine r_iald (q := 39) (t := 15) C wd_eq t rfl (by omega) (by decide) dX8_mix_38 rfl ?_
        refine r_ti (show ((upd (upd (upd wd1 t (nI 0)) t (wb9 (nI 0) (rw (bk + 4 * t + 0)))) t (wb9 (wb9 (nI 0) (rw (bk + 4 * t + 0))) (rw (bk + 4 * t + 1)))) t : Int32) = wb9 (wb9 (nI 0) (rw (bk + 4 * t + 0))) (rw (bk + 4 * t + 1)) from pk_us) ?_
        refine r_sipush (q := 42) C (nI 256) dX8_mix_39 (by decide) rfl ?_
        refine r_imul (q := 43) C dX8_mix_42 rfl ?_
        refine r_aload_n (q := 44) C 2 dX8_mix_43 rfl rfl ?_
        refine r_get (q := 47) (t := 0) C koX8 ((wd_ne (by decide)).trans ((gf 0 (by decide)).trans h0)) 16 (by decide) q716 rfl rfl dX8_mix_44 rfl ?_
        refine r_iload_n (q := 48) C 3 dX8_mix_47 rfl rfl ?_
        refine r_iconst (q := 49) C (nI 4) dX8_mix_48 (by decide) rfl ?_
        refine r_iload_n (q := 50) C 1 dX8_mix_49 rfl rfl ?_
        refine r_imul (q := 51) C dX8_mix_50 rfl ?_
        refine r_ti (show ((nI 4) * (nI t) : Int32) = nI (4 * t) from pk_mul 4 t) ?_
        refine r_iadd (q := 52) C dX8_mix_51 rfl ?_
        refine r_ti (show ((nI bk) + (nI (4 * t)) : Int32) = nI (bk + (4 * t)) from nI_add bk (4 * t)) ?_
        refine r_iload_n (q := 53) C 0 dX8_mix_52 rfl rfl ?_
        refine r_iadd (q := 54) C dX8_mix_53 rfl ?_
        refine r_ti (show ((nI (bk + (4 * t))) + (nI 2) : Int32) = nI (bk + (4 * t) + 2) from nI_add (bk + (4 * t)) 2) ?_
        refine r_bald (q := 55) (t := 11) C ((wd_ne (by decide)).trans ((gf 11 (by decide)).trans h11)) (bk + (4 * t) + 2) rfl (by omega) (by decide) dX8_mix_54 rfl ?_
        refine r_sipush (q := 58) C (nI 255) dX8_mix_55 (by decide) rfl ?_
        refine r_iand (q := 59) C dX8_mix_58 rfl ?_
        refine r_iadd (q := 60) C dX8_mix_59 rfl ?_
        refine r_ti (show (((wb9 (wb9 (nI 0) (rw (bk + 4 * t + 0))) (rw (bk + 4 * t + 1))) * (nI 256)) + ((rw (bk + (4 * t) + 2)) &&& (nI 255)) : Int32) = wb9 (wb9 (wb9 (nI 0) (rw (bk + 4 * t + 0))) (rw (bk + 4 * t + 1))) (rw (bk + 4 * t + 2)) from wb9_m _ _) ?_
        refine r_iast (q := 61) (t := 15) (w' := wd_set w1 15 (ad 15) (aI g 64 (upd (upd (upd (upd wd1 t (nI 0)) t (wb9 (nI 0) (rw (bk + 4 * t + 0)))) t (wb9 (wb9 (nI 0) (rw (bk + 4 * t + 0))) (rw (bk + 4 * t + 1)))) t (wb9 (wb9 (wb9 (nI 0) (rw (bk + 4 * t + 0))) (rw (bk + 4 * t + 1))) (rw (bk + 4 * t + 2)))))) C wd_eq t rfl (by omega) (by decide) dX8_mix_60 rfl wd_ss ?_
        refine r_iinc (q := 64) (v := nI 3) (lv' := [(3, .int (nI 3)), (2, .int (nI t)), (0, .ref m0), (1, .int (nI bk))]) C 0 dX8_mix_61 rfl (nI_1 2) (by decide) rfl rfl ?_
        refine r_goto (tgt := 23) C dX8_mix_64 (by decide) ?_
        refine r_iload_n (q := 24) C 0 dX8_mix_23 rfl rfl ?_
        refine r_iconst (q := 25) C (nI 4) dX8_mix_24 (by decide) rfl ?_
        refine r_icmp_ge_f (q := 28) (tgt := 67) C dX8_mix_25 (by decide) rfl (fun z => absurd ((nI_leI (a := 4) (b := 3) (by omega) (by omega)).mp z) (by omega)) ?_
        refine r_aload_n (q := 29) C 2 dX8_mix_28 rfl rfl ?_
        refine r_get (q := 32) (t := 0) C koX8 ((wd_ne (by decide)).trans ((gf 0 (by decide)).trans h0)) 21 (by decide) q721 rfl rfl dX8_mix_29 rfl ?_
        refine r_iload_n (q := 33) C 1 dX8_mix_32 rfl rfl ?_
        refine r_aload_n (q := 34) C 2 dX8_mix_33 rfl rfl ?_
        refine r_get (q := 37) (t := 0) C koX8 ((wd_ne (by decide)).trans ((gf 0 (by decide)).trans h0)) 21 (by decide) q721 rfl rfl dX8_mix_34 rfl ?_
        refine r_iload_n (q := 38) C 1 dX8_mix_37 rfl rfl ?_
        refine r_iald (q := 39) (t := 15) C wd_eq t rfl (by omega) (by decide) dX8_mix_38 rfl ?_
        refine r_ti (show ((upd (upd (upd (upd wd1 t (nI 0)) t (wb9 (nI 0) (rw (bk + 4 * t + 0)))) t (wb9 (wb9 (nI 0) (rw (bk + 4 * t + 0))) (rw (bk + 4 * t + 1)))) t (wb9 (wb9 (wb9 (nI 0) (rw (bk + 4 * t + 0))) (rw (bk + 4 * t + 1))) (rw (bk + 4 * t + 2)))) t : Int32) = wb9 (wb9 (wb9 (nI 0) (rw (bk + 4 * t + 0))) (rw (bk + 4 * t + 1))) (rw (bk + 4 * t + 2)) from pk_us) ?_
        refine r_sipush (q := 42) C (nI 256) dX8_mix_39 (by decide) rfl ?_
        refine r_imul (q := 43) C dX8_mix_42 rfl ?_
        refine r_aload_n (q := 44) C 2 dX8_mix_43 rfl rfl ?_
        refine r_get (q := 47) (t := 0) C koX8 ((wd_ne (by decide)).trans ((gf 0 (by decide)).trans h0)) 16 (by decide) q716 rfl rfl dX8_mix_44 rfl ?_
        refine r_iload_n (q := 48) C 3 dX8_mix_47 rfl rfl ?_
        refine r_iconst (q := 49) C (nI 4) dX8_mix_48 (by decide) rfl ?_
        refine r_iload_n (q := 50) C 1 dX8_mix_49 rfl rfl ?_
        refine r_imul (q := 51) C dX8_mix_50 rfl ?_
        refine r_ti (show ((nI 4) * (nI t) : Int32) = nI (4 * t) from pk_mul 4 t) ?_
        refine r_iadd (q := 52) C dX8_mix_51 rfl ?_
        refine r_ti (show ((nI bk) + (nI (4 * t)) : Int32) = nI (bk + (4 * t)) from nI_add bk (4 * t)) ?_
        refine r_iload_n (q := 53) C 0 dX8_mix_52 rfl rfl ?_
        refine r_iadd (q := 54) C dX8_mix_53 rfl ?_
        refine r_ti (show ((nI (bk + (4 * t))) + (nI 3) : Int32) = nI (bk + (4 * t) + 3) from nI_add (bk + (4 * t)) 3) ?_
        refine r_bald (q := 55) (t := 11) C ((wd_ne (by decide)).trans ((gf 11 (by decide)).trans h11)) (bk + (4 * t) + 3) rfl (by omega) (by decide) dX8_mix_54 rfl ?_
        refine r_sipush (q := 58) C (nI 255) dX8_mix_55 (by decide) rfl ?_
        refine r_iand (q := 59) C dX8_mix_58 rfl ?_
        refine r_iadd (q := 60) C dX8_mix_59 rfl ?_
        refine r_ti (show (((wb9 (wb9 (wb9 (nI 0) (rw (bk + 4 * t + 0))) (rw (bk + 4 * t + 1))) (rw (bk + 4 * t + 2))) * (nI 256)) + ((rw (bk + (4 * t) + 3)) &&& (nI 255)) : Int32) = wb9 (wb9 (wb9 (wb9 (nI 0) (rw (bk + 4 * t + 0))) (rw (bk + 4 * t + 1))) (rw (bk + 4 * t + 2))) (rw (bk + 4 * t + 3)) from wb9_m _ _) ?_
        refine r_iast (q := 61) (t := 15) (w' := wd_set w1 15 (ad 15) (aI g 64 (upd (upd (upd (upd (upd wd1 t (nI 0)) t (wb9 (nI 0) (rw (bk + 4 * t + 0)))) t (wb9 (wb9 (nI 0) (rw (bk + 4 * t + 0))) (rw (bk + 4 * t + 1)))) t (wb9 (wb9 (wb9 (nI 0) (rw (bk + 4 * t + 0))) (rw (bk + 4 * t + 1))) (rw (bk + 4 * t + 2)))) t (wb9 (wb9 (wb9 (wb9 (nI 0) (rw (bk + 4 * t + 0))) (rw (bk + 4 * t + 1))) (rw (bk + 4 * t + 2))) (rw (bk + 4 * t + 3)))))) C wd_eq t rfl (by omega) (by decide) dX8_mix_60 rfl wd_ss ?_
        refine r_iinc (q := 64) (v := nI 4) (lv' := [(3, .int (nI 4)), (2, .int (nI t)), (0, .ref m0), (1, .int (nI bk))]) C 0 dX8_mix_61 rfl (nI_1 3) (by decide) rfl rfl ?_
        refine r_goto (tgt := 23) C dX8_mix_64 (by decide) ?_
        refine r_iload_n (q := 24) C 0 dX8_mix_23 rfl rfl ?_
        refine r_iconst (q := 25) C (nI 4) dX8_mix_24 (by decide) rfl ?_
        refine r_icmp_ge_t (tgt := 67) C dX8_mix_25 (by decide) ((nI_leI (a := 4) (b := 4) (by omega) (by omega)).mpr (by omega)) ?_
        refine r_goto (tgt := 155) C dX8_mix_67 (by decide) ?_
        refine r_iinc (q := 158) (v := nI (t + 1)) (lv' := [(2, .int (nI (t + 1))), (3, .int (nI 4)), (0, .ref m0), (1, .int (nI bk))]) C 1 dX8_mix_155 rfl (nI_1 t) (by decide) rfl rfl ?_
        refine r_goto (tgt := 2) C dX8_mix_158 (by decide) ?_
        refine r_sub (lv' := [(2, .int (nI (t + 1))), (0, .ref m0), (1, .int (nI bk))]) [0, 2, 3] rfl ?_
        refine ih (t + 1) _ _ _ _ (by omega) ((wd_ne (by decide)).trans g13) ((wd_ne (by decide)).trans g14) wd_eq hst ?_ (gf.trans (Fr.set (by decide) (by decide)))
        rw [fa_upd_twice, fa_upd_twice, fa_upd_twice, fa_upd_twice]
        exact sc9_st0 hwd (by omega)
  exact loop1 64 0 st nw wd w (by omega) h13 h14 h15 (fun _ _ => rfl) (fun j hj => absurd hj (Nat.not_lt_zero j)) Fr.rfl'
