/-! the reference: write, open, digestOf, close -/
theorem sD9 : ∀ k, k < 8 → (((nI (8 * k)).toInt64 &&& 63).toBitVec.smod 64).toNat = 8 * k := by decide +kernel
theorem lshr9 {a d : Nat} {D : Int64} (hD : (D.toBitVec.smod 64).toNat = d) (h : a < 2 ^ 62) : lN a >>> D = lN (a / 2 ^ d) := by
  have hd : a / 2 ^ d ≤ a := Nat.div_le_self _ _
  apply Int64.toInt_inj.mp
  have e : (lN a >>> D).toInt = (lN a).toInt >>> d := by
    rw [← hD]
    exact BitVec.toInt_sshiftRight ..
  rw [e, Int.shiftRight_eq_div_pow, pk_lT (by omega), pk_lT (by omega)]
  rfl
theorem by_m {x k : Nat} (hx : x < 2 ^ 62) (hk : k < 8) : (lN x >>> ((nI (8 * k)).toInt64 &&& 63)).toInt32.toInt8.toInt32 = byL (lN x) k := by
  unfold byL
  rw [lsh9 hx (by omega), lshr9 (sD9 k hk) hx, lN_i]
theorem byL_0 {x : Nat} (hx : x < 2 ^ 62) : byL (lN x) 0 = (nI x).toInt8.toInt32 := by
  unfold byL
  rw [lsh9 hx (by omega), Nat.mul_zero, Nat.pow_zero, Nat.div_one]
/-- a row's bytes over the ones at 'a' -/
def ovF (f : Nat → Int32) (a : Nat) (fb : Nat → Int32) : Nat → Int32 := fun p => if a ≤ p ∧ p < a + 73 then fb (p - a) else f p
theorem ovF_in {f fb : Nat → Int32} {a j : Nat} (h : j < 73) : ovF f a fb (a + j) = fb j := by
  unfold ovF
  rw [if_pos (by omega), Nat.add_sub_cancel_left]
theorem ovF_out {f fb : Nat → Int32} {a p : Nat} (h : p < a ∨ a + 73 ≤ p) : ovF f a fb p = f p := if_neg (by omega)
theorem wr_ov {f fb : Nat → Int32} {a q wd : Nat} {v : Int64} (h : q + wd ≤ 73) : wrF (ovF f a fb) (a + q) wd wd v = ovF f a (wrF fb q wd wd v) := by
  funext p
  unfold wrF ovF
  by_cases z : a ≤ p ∧ p < a + 73
  · rw [if_pos z, if_pos z]
    dsimp only
    by_cases y : a + q ≤ p ∧ p < a + q + wd
    · rw [if_pos y, if_pos (by omega)]
      congr 1
      omega
    · rw [if_neg y, if_neg (by omega)]
  · rw [if_neg z, if_neg z, if_neg (by omega)]
theorem up_ov {f fb : Nat → Int32} {a : Nat} {x : Int32} : upd (ovF f a fb) a x = ovF f a (upd fb 0 x) := by
  funext p
  unfold upd ovF
  by_cases z : p = a
  · subst z
    rw [if_pos rfl, if_pos (show p ≤ p ∧ p < p + 73 by omega)]
    dsimp only
    rw [if_pos (by omega)]
  · rw [if_neg z]
    by_cases y : a ≤ p ∧ p < a + 73
    · rw [if_pos y, if_pos y]
      dsimp only
      rw [if_neg (by omega)]
    · rw [if_neg y, if_neg y]
theorem kd_wr {x : Nat} (hx : x < 2 ^ 62) : upd (fun _ => 0) 0 (nI x).toInt8.toInt32 = wrF (fun _ => 0) 0 1 1 (lN x) := by
  funext p
  unfold upd wrF
  by_cases z : p = 0
  · subst z
    rw [if_pos rfl, if_pos (by omega)]
    exact (byL_0 hx).symm
  · rw [if_neg z, if_neg (by omega)]
def zrF (f : Nat → Int32) (a c : Nat) : Nat → Int32 := fun p => if a ≤ p ∧ p < a + c then 0 else f p
theorem zrF_0 {f : Nat → Int32} {a : Nat} : zrF f a 0 = f := by
  funext p
  exact if_neg (by omega)
theorem zrF_s {f : Nat → Int32} {a c : Nat} : upd (zrF f a c) (a + c) (nI 0).toInt8.toInt32 = zrF f a (c + 1) := by
  funext p
  have e : (nI 0).toInt8.toInt32 = 0 := by decide
  unfold upd zrF
  by_cases z : p = a + c
  · rw [if_pos z, if_pos (by omega), e]
  · rw [if_neg z]
    by_cases y : a ≤ p ∧ p < a + c
    · rw [if_pos y, if_pos (by omega)]
    · rw [if_neg y, if_neg (by omega)]
theorem zr_ov {f : Nat → Int32} {a : Nat} : zrF f a 73 = ovF f a (fun _ => 0) := rfl
theorem rwD_0 {by9 : Nat → Int32} {r c : Nat} (hc : c < 32) (h : r = 0) : rwD by9 r c = nI 0 := by
  unfold rwD rw9
  rw [if_pos hc]
  exact if_pos h
theorem rwD_1 {by9 : Nat → Int32} {r c : Nat} (hc : c < 32) (h : ¬ r = 0) : rwD by9 r c = by9 (73 * (r - 1) + 41 + c) := by
  unfold rwD rw9
  rw [if_pos hc]
  exact if_neg h
theorem rwD_2 {by9 : Nat → Int32} {r c : Nat} : rwD by9 r (32 + c) = by9 (73 * r + c) := by
  unfold rwD rw9
  rw [if_neg (by omega), Nat.add_sub_cancel_left]
/-- what a new row is summed over -/
theorem rwD_ov {by9 fb : Nat → Int32} {n : Nat} : sum9 73 (rwD (ovF by9 (73 * n) fb) n) = sum9 73 (rw9 (pd9 by9 n) fb) := by
  apply rw9_congr
  · intro j hj
    unfold pd9
    by_cases z : n = 0
    · rw [if_pos z, if_pos z]
    · rw [if_neg z, if_neg z, ovF_out (by omega)]
  · intro j hj
    exact ovF_in (by omega)
def clF (f : Nat → Int32) (a c : Nat) (rs : Nat → Int32) : Nat → Int32 := fun p => if a ≤ p ∧ p < a + c then rs (p - a) else f p
theorem clF_s {f rs : Nat → Int32} {a c : Nat} {x : Int32} (h : x = rs c) : upd (clF f a c rs) (a + c) x = clF f a (c + 1) rs := by
  funext p
  unfold upd clF
  by_cases z : p = a + c
  · subst z
    rw [if_pos rfl, if_pos (by omega), Nat.add_sub_cancel_left, h]
  · rw [if_neg z]
    by_cases y : a ≤ p ∧ p < a + c
    · rw [if_pos y, if_pos (by omega)]
    · rw [if_neg y, if_neg (by omega)]
theorem cl_ap {by9 fb : Nat → Int32} {n : Nat} : clF (ovF by9 (73 * n) fb) (73 * n + 41) 32 (dig9 (sum9 73 (rw9 (pd9 by9 n) fb))) = apR by9 n fb := by
  funext p
  unfold clF ovF apR cpF
  by_cases z : 73 * n ≤ p ∧ p < 73 * n + 73
  · rw [if_pos z]
    by_cases y : 73 * n + 41 ≤ p ∧ p < 73 * n + 41 + 32
    · rw [if_pos y, if_pos z, if_pos (by omega), Nat.sub_sub]
    · rw [if_neg y, if_pos z, if_neg (by omega)]
  · rw [if_neg (by omega), if_neg z, if_neg z]
/-- what is left of a reckoning: the row's, the state's and the words' cells -/
def ScAt (g : cx_G) (w : wd_T) (ad : Nat → Nat) : Prop := (∃ f : Nat → Int32, w 11 = some (ad 11, aB g 192 f)) ∧ (∃ f : Nat → Int32, w 12 = some (ad 12, aB g 32 f)) ∧ (∃ f : Nat → Int32, w 13 = some (ad 13, aI g 8 f)) ∧ (∃ f : Nat → Int32, w 14 = some (ad 14, aI g 8 f)) ∧ ∃ f : Nat → Int32, w 15 = some (ad 15, aI g 64 f)
def KsAt (g : cx_G) (w : wd_T) (ad : Nat → Nat) : Prop := (∃ cu : Nat → Int32, w 1 = some (ad 1, aI g 64 cu) ∧ ∀ j, j < 64 → cu j = kCu j) ∧ ∃ sq : Nat → Int32, w 2 = some (ad 2, aI g 8 sq) ∧ ∀ j, j < 8 → sq j = kSq j
theorem ScAt.kept {g : cx_G} {w w' : wd_T} {ad : Nat → Nat} (h : ScAt g w ad) (e : ∀ t, 11 ≤ t → t < 16 → w' t = w t) : ScAt g w' ad := by
  obtain ⟨⟨f1, h1⟩, ⟨f2, h2⟩, ⟨f3, h3⟩, ⟨f4, h4⟩, f5, h5⟩ := h
  exact ⟨⟨f1, (e 11 (by decide) (by decide)).trans h1⟩, ⟨f2, (e 12 (by decide) (by decide)).trans h2⟩, ⟨f3, (e 13 (by decide) (by decide)).trans h3⟩, ⟨f4, (e 14 (by decide) (by decide)).trans h4⟩, f5, (e 15 (by decide) (by decide)).trans h5⟩
theorem KsAt.kept {g : cx_G} {w w' : wd_T} {ad : Nat → Nat} (h : KsAt g w ad) (e : ∀ t, 1 ≤ t → t < 3 → w' t = w t) : KsAt g w' ad := by
  obtain ⟨⟨f1, h1, k1⟩, f2, h2, k2⟩ := h
  exact ⟨⟨f1, (e 1 (by decide) (by decide)).trans h1, k1⟩, f2, (e 2 (by decide) (by decide)).trans h2, k2⟩
set_option maxHeartbeats 4000000 in
set_option maxRecDepth 20000 in
theorem m_write {l : Launch} {g : cx_G} {w : wd_T} {m0 : Nat} {ad : Nat → Nat} {tC tk nu gC rC fl rS fS : Int32} {by9 : Nat → Int32} {a x wd : Nat} (h0 : w 0 = some (m0, mo ad tC tk nu gC rC fl rS fS)) (h9 : w 9 = some (ad 9, aB g 14600 by9)) (hx : x < 10000000000) (hw : 1 ≤ wd) (hw2 : wd ≤ 8) (ha : a + wd ≤ 14600) : Mt l g yX8_write cX8_write 6 (some .int) 0 0 0 w [.ref m0, .int (nI a), .long (lN x), .int (nI wd)] (fun v w' => v = some (.int (nI (a + wd))) ∧ w' 9 = some (ad 9, aB g 14600 (wrF by9 a wd wd (lN x))) ∧ Fr w w' 9 10) := by
  refine mt_of RX8 "write" rfl rfl (by decide) (Nat.le_of_ble_eq_true rfl) [(0, .ref m0), (1, .int (nI a)), (2, .long (lN x)), (4, .int (nI wd))] rfl ?_
  intro k hkl C hin
  subst hkl
  refine r_iconst (q := 1) C (nI 0) dX8_write_0 (by decide) rfl ?_
  refine r_istore (q := 3) (lv' := [(5, .int (nI 0)), (0, .ref m0), (1, .int (nI a)), (2, .long (lN x)), (4, .int (nI wd))]) C dX8_write_1 (by decide) rfl rfl ?_
  refine r_sub (lv' := [(5, .int (nI 0)), (0, .ref m0), (1, .int (nI a)), (2, .long (lN x)), (4, .int (nI wd))]) [0, 1, 2, 3, 4] rfl ?_
  have loop : ∀ (r c : Nat)  (w1 : wd_T), c + r = wd → (w1 9 = some (ad 9, aB g 14600 (wrF by9 a wd c (lN x)))) → (Fr w w1 9 10) → V g k 6 w1 0 0 (kQ g k (fun v w' => v = some (.int (nI (a + wd))) ∧ w' 9 = some (ad 9, aB g 14600 (wrF by9 a wd wd (lN x))) ∧ Fr w w' 9 10) 0 0) 3 [(5, .int (nI c)), (0, .ref m0), (1, .int (nI a)), (2, .long (lN x)), (4, .int (nI wd))] [] := by
    intro r
    induction r with
    | zero =>
      intro c  w1 hi g9 gf
      refine r_iload (q := 5) C 0 dX8_write_3 rfl rfl ?_
      refine r_iload (q := 7) C 4 dX8_write_5 rfl rfl ?_
      refine r_icmp_ge_t (tgt := 39) C dX8_write_7 (by decide) ((nI_leI (a := wd) (b := c) (by omega) (by omega)).mpr (by omega)) ?_
      refine r_iload_n (q := 40) C 2 dX8_write_39 rfl rfl ?_
      refine r_iload (q := 42) C 4 dX8_write_40 rfl rfl ?_
      refine r_iadd (q := 43) C dX8_write_42 rfl ?_
      refine r_ti (show ((nI a) + (nI wd) : Int32) = nI (a + wd) from nI_add a wd) ?_
      obtain rfl : c = wd := by omega
      exact r_iret C rfl (by decide) (by decide) dX8_write_43 ⟨rfl, g9, gf⟩
    | succ r ih =>
      intro c  w1 hi g9 gf
      refine r_iload (q := 5) C 0 dX8_write_3 rfl rfl ?_
      refine r_iload (q := 7) C 4 dX8_write_5 rfl rfl ?_
      refine r_icmp_ge_f (q := 10) (tgt := 39) C dX8_write_7 (by decide) rfl (fun z => absurd ((nI_leI (a := wd) (b := c) (by omega) (by omega)).mp z) (by omega)) ?_
      refine r_aload_n (q := 11) C 1 dX8_write_10 rfl rfl ?_
      refine r_get (q := 14) (t := 0) C koX8 ((gf 0 (by decide)).trans h0) 12 (by decide) q712 rfl rfl dX8_write_11 rfl ?_
      refine r_iload_n (q := 15) C 2 dX8_write_14 rfl rfl ?_
      refine r_iload (q := 17) C 0 dX8_write_15 rfl rfl ?_
      refine r_iadd (q := 18) C dX8_write_17 rfl ?_
      refine r_ti (show ((nI a) + (nI c) : Int32) = nI (a + c) from nI_add a c) ?_
      refine r_lload_n (q := 19) C 3 dX8_write_18 rfl rfl ?_
      refine r_bipush (q := 21) C (nI 8) dX8_write_19 (by decide) rfl ?_
      refine r_iload (q := 23) C 4 dX8_write_21 rfl rfl ?_
      refine r_iconst (q := 24) C (nI 1) dX8_write_23 (by decide) rfl ?_
      refine r_isub (q := 25) C dX8_write_24 rfl ?_
      refine r_ti (show ((nI wd) - (nI 1) : Int32) = nI (wd - 1) from pk_sub (by omega)) ?_
      refine r_iload (q := 27) C 0 dX8_write_25 rfl rfl ?_
      refine r_isub (q := 28) C dX8_write_27 rfl ?_
      refine r_ti (show ((nI (wd - 1)) - (nI c) : Int32) = nI (wd - 1 - c) from pk_sub (by omega)) ?_
      refine r_imul (q := 29) C dX8_write_28 rfl ?_
      refine r_ti (show ((nI 8) * (nI (wd - 1 - c)) : Int32) = nI (8 * (wd - 1 - c)) from pk_mul 8 (wd - 1 - c)) ?_
      refine r_lshr (q := 30) C dX8_write_29 rfl ?_
      refine r_l2i (q := 31) C dX8_write_30 rfl ?_
      refine r_i2b (q := 32) C dX8_write_31 rfl ?_
      refine r_bast8 (q := 33) (t := 9) (w' := wd_set w1 9 (ad 9) (aB g 14600 (upd (wrF by9 a wd c (lN x)) (a + c) (((lN x) >>> ((nI (8 * (wd - 1 - c))).toInt64 &&& 63)).toInt32).toInt8.toInt32))) C g9 (a + c) rfl (by omega) (by decide) dX8_write_32 rfl rfl ?_
      refine r_iinc (q := 36) (v := nI (c + 1)) (lv' := [(5, .int (nI (c + 1))), (0, .ref m0), (1, .int (nI a)), (2, .long (lN x)), (4, .int (nI wd))]) C 0 dX8_write_33 rfl (nI_1 c) (by decide) rfl rfl ?_
      refine r_goto (tgt := 3) C dX8_write_36 (by decide) ?_
      refine r_sub (lv' := [(5, .int (nI (c + 1))), (0, .ref m0), (1, .int (nI a)), (2, .long (lN x)), (4, .int (nI wd))]) [0, 1, 2, 3, 4] rfl ?_
      exact ih (c + 1) _ (by omega) (by rw [← wrF_s, ← by_m (show x < 2 ^ 62 by omega) (show wd - 1 - c < 8 by omega)]; exact wd_eq) (gf.trans (Fr.set (by decide) (by decide)))
  exact loop wd 0 w (by omega) (by rw [wrF_0]; exact h9) Fr.rfl'

set_option maxHeartbeats 4000000 in
set_option maxRecDepth 20000 in
theorem m_open {l : Launch} {g : cx_G} {w : wd_T} {m0 : Nat} {ad : Nat → Nat} {tC tk nu gC fl rS fS : Int32} {rN kd t9 : Nat} {fn : Nat → Nat} {by9 : Nat → Int32} (h0 : w 0 = some (m0, mo ad tC tk nu gC (nI rN) fl rS fS)) (h6 : w 6 = some (ad 6, aL g 1800 (fun p => lN (fn p)))) (h9 : w 9 = some (ad 9, aB g 14600 by9)) (hr : rN < 200) (hk : kd < 10) (ht : t9 < 200) (hf : fn (9 * t9) < 10000000000) : Mt l g yX8_open cX8_open 5 (some .int) 1 0 0 w [.ref m0, .int (nI kd), .int (nI t9)] (fun v w' => v = some (.int (nI (73 * rN + 1 + 4))) ∧ w' 9 = some (ad 9, aB g 14600 (ovF by9 (73 * rN) (wrF (wrF (fun _ => 0) 0 1 1 (lN kd)) 1 4 4 (lN (fn (9 * t9)))))) ∧ Fr w w' 9 10) := by
  refine mt_of RX8 "open" rfl rfl (by decide) (Nat.le_of_ble_eq_true rfl) [(0, .ref m0), (1, .int (nI kd)), (2, .int (nI t9))] rfl ?_
  intro k hkl C hin
  subst hkl
  refine r_bipush (q := 2) C (nI 73) dX8_open_0 (by decide) rfl ?_
  refine r_aload_n (q := 3) C 0 dX8_open_2 rfl rfl ?_
  refine r_get (q := 6) (t := 0) C koX8 h0 14 (by decide) q714 rfl rfl dX8_open_3 rfl ?_
  refine r_imul (q := 7) C dX8_open_6 rfl ?_
  refine r_ti (show ((nI 73) * (nI rN) : Int32) = nI (73 * rN) from pk_mul 73 rN) ?_
  refine r_istore_n (q := 8) (lv' := [(3, .int (nI (73 * rN))), (0, .ref m0), (1, .int (nI kd)), (2, .int (nI t9))]) C dX8_open_7 (by decide) rfl rfl ?_
  refine r_iconst (q := 9) C (nI 0) dX8_open_8 (by decide) rfl ?_
  refine r_istore (q := 11) (lv' := [(4, .int (nI 0)), (3, .int (nI (73 * rN))), (0, .ref m0), (1, .int (nI kd)), (2, .int (nI t9))]) C dX8_open_9 (by decide) rfl rfl ?_
  refine r_sub (lv' := [(4, .int (nI 0)), (3, .int (nI (73 * rN))), (0, .ref m0), (1, .int (nI kd)), (2, .int (nI t9))]) [0, 1, 2, 3, 4] rfl ?_
  have loop : ∀ (r c : Nat)  (w1 : wd_T), c + r = 73 → (w1 9 = some (ad 9, aB g 14600 (zrF by9 (73 * rN) c))) → (Fr w w1 9 10) → V g k 5 w1 0 0 (kQ g k (fun v w' => v = some (.int (nI (73 * rN + 1 + 4))) ∧ w' 9 = some (ad 9, aB g 14600 (ovF by9 (73 * rN) (wrF (wrF (fun _ => 0) 0 1 1 (lN kd)) 1 4 4 (lN (fn (9 * t9)))))) ∧ Fr w w' 9 10) 0 0) 11 [(4, .int (nI c)), (3, .int (nI (73 * rN))), (0, .ref m0), (1, .int (nI kd)), (2, .int (nI t9))] [] := by
    intro r
    induction r with
    | zero =>
      intro c  w1 hi g9 gf
      obtain rfl : c = 73 := by omega
      refine r_iload (q := 13) C 0 dX8_open_11 rfl rfl ?_
      refine r_bipush (q := 15) C (nI 73) dX8_open_13 (by decide) rfl ?_
      refine r_icmp_ge_t (tgt := 34) C dX8_open_15 (by decide) ((nI_leI (a := 73) (b := 73) (by omega) (by omega)).mpr (by omega)) ?_
      refine r_aload_n (q := 35) C 2 dX8_open_34 rfl rfl ?_
      refine r_get (q := 38) (t := 0) C koX8 ((gf 0 (by decide)).trans h0) 12 (by decide) q712 rfl rfl dX8_open_35 rfl ?_
      refine r_iload_n (q := 39) C 1 dX8_open_38 rfl rfl ?_
      refine r_iload_n (q := 40) C 3 dX8_open_39 rfl rfl ?_
      refine r_i2b (q := 41) C dX8_open_40 rfl ?_
      refine r_bast8 (q := 42) (t := 9) (w' := wd_set w1 9 (ad 9) (aB g 14600 (upd (zrF by9 (73 * rN) 73) (73 * rN) (nI kd).toInt8.toInt32))) C g9 (73 * rN) rfl (by omega) (by decide) dX8_open_41 rfl rfl ?_
      refine r_aload_n (q := 43) C 2 dX8_open_42 rfl rfl ?_
      refine r_iload_n (q := 44) C 1 dX8_open_43 rfl rfl ?_
      refine r_iconst (q := 45) C (nI 1) dX8_open_44 (by decide) rfl ?_
      refine r_iadd (q := 46) C dX8_open_45 rfl ?_
      refine r_ti (show ((nI (73 * rN)) + (nI 1) : Int32) = nI (73 * rN + 1) from nI_add (73 * rN) 1) ?_
      refine r_aload_n (q := 47) C 2 dX8_open_46 rfl rfl ?_
      refine r_get (q := 50) (t := 0) C koX8 ((wd_ne (by decide)).trans ((gf 0 (by decide)).trans h0)) 6 (by decide) q706 rfl rfl dX8_open_47 rfl ?_
      refine r_bipush (q := 52) C (nI 9) dX8_open_50 (by decide) rfl ?_
      refine r_iload_n (q := 53) C 4 dX8_open_52 rfl rfl ?_
      refine r_imul (q := 54) C dX8_open_53 rfl ?_
      refine r_ti (show ((nI 9) * (nI t9) : Int32) = nI (9 * t9) from pk_mul 9 t9) ?_
      refine r_lald (q := 55) (t := 6) C ((wd_ne (by decide)).trans ((gf 6 (by decide)).trans h6)) (9 * t9) rfl (by omega) (by decide) dX8_open_54 rfl ?_
      refine r_iconst (q := 56) C (nI 4) dX8_open_55 (by decide) rfl ?_
      refine r_callV (q := 59) (t := 0) (As := [.int (nI (73 * rN + 1)), .long ((fun p => lN (fn p)) (9 * t9)), .int (nI 4)]) (st := []) C koX8 ((wd_ne (by decide)).trans ((gf 0 (by decide)).trans h0)) (m_write ((wd_ne (by decide)).trans ((gf 0 (by decide)).trans h0)) wd_eq (x := fn (9 * t9)) (a := 73 * rN + 1) (wd := 4) hf (by decide) (by decide) (by omega)) q816 q813 q815 qp19 q9 rfl ⟨by decide, by decide⟩ (show (parseMethodDescriptor yX8_write.desc).map (fun d => d.parameters.length) = some 3 by decide +kernel) (by decide) (by decide) (by decide) (by decide) (Nat.le_of_ble_eq_true rfl) rfl dX8_open_56 rfl ?_
      rintro v9 w5 ⟨rfl, e9, ef⟩
      show V g k 5 w5 0 0 (kQ g k (fun v w' => v = some (.int (nI (73 * rN + 1 + 4))) ∧ w' 9 = some (ad 9, aB g 14600 (ovF by9 (73 * rN) (wrF (wrF (fun _ => 0) 0 1 1 (lN kd)) 1 4 4 (lN (fn (9 * t9)))))) ∧ Fr w w' 9 10) 0 0) 59 [(4, .int (nI 73)), (3, .int (nI (73 * rN))), (0, .ref m0), (1, .int (nI kd)), (2, .int (nI t9))] [.int (nI (73 * rN + 1 + 4))]
      refine r_iret C rfl (by decide) (by decide) dX8_open_59 ⟨rfl, by rw [← wr_ov (by decide), ← kd_wr (show kd < 2 ^ 62 by omega), ← up_ov, ← zr_ov]; exact e9, ?_⟩
      exact fun t ht => (ef t ht).trans ((wd_ne (by omega)).trans (gf t ht))
    | succ r ih =>
      intro c  w1 hi g9 gf
      refine r_iload (q := 13) C 0 dX8_open_11 rfl rfl ?_
      refine r_bipush (q := 15) C (nI 73) dX8_open_13 (by decide) rfl ?_
      refine r_icmp_ge_f (q := 18) (tgt := 34) C dX8_open_15 (by decide) rfl (fun z => absurd ((nI_leI (a := 73) (b := c) (by omega) (by omega)).mp z) (by omega)) ?_
      refine r_aload_n (q := 19) C 2 dX8_open_18 rfl rfl ?_
      refine r_get (q := 22) (t := 0) C koX8 ((gf 0 (by decide)).trans h0) 12 (by decide) q712 rfl rfl dX8_open_19 rfl ?_
      refine r_iload_n (q := 23) C 1 dX8_open_22 rfl rfl ?_
      refine r_iload (q := 25) C 0 dX8_open_23 rfl rfl ?_
      refine r_iadd (q := 26) C dX8_open_25 rfl ?_
      refine r_ti (show ((nI (73 * rN)) + (nI c) : Int32) = nI (73 * rN + c) from nI_add (73 * rN) c) ?_
      refine r_iconst (q := 27) C (nI 0) dX8_open_26 (by decide) rfl ?_
      refine r_bast (q := 28) (t := 9) (w' := wd_set w1 9 (ad 9) (aB g 14600 (upd (zrF by9 (73 * rN) c) (73 * rN + c) (nI 0).toInt8.toInt32))) C g9 (73 * rN + c) rfl (by omega) (by decide) dX8_open_27 rfl rfl ?_
      refine r_iinc (q := 31) (v := nI (c + 1)) (lv' := [(4, .int (nI (c + 1))), (3, .int (nI (73 * rN))), (0, .ref m0), (1, .int (nI kd)), (2, .int (nI t9))]) C 0 dX8_open_28 rfl (nI_1 c) (by decide) rfl rfl ?_
      refine r_goto (tgt := 11) C dX8_open_31 (by decide) ?_
      refine r_sub (lv' := [(4, .int (nI (c + 1))), (3, .int (nI (73 * rN))), (0, .ref m0), (1, .int (nI kd)), (2, .int (nI t9))]) [0, 1, 2, 3, 4] rfl ?_
      exact ih (c + 1) _ (by omega) (by rw [← zrF_s]; exact wd_eq) (gf.trans (Fr.set (by decide) (by decide)))
  exact loop 73 0 w (by omega) (by rw [zrF_0]; exact h9) Fr.rfl'

set_option maxHeartbeats 4000000 in
set_option maxRecDepth 20000 in
theorem m_dig {l : Launch} {g : cx_G} {w : wd_T} {m0 : Nat} {ad : Nat → Nat} {tC tk nu gC rC fl rS fS : Int32} {by9 : Nat → Int32} {r : Nat} (hks : KsAt g w ad) (hsc : ScAt g w ad) (h0 : w 0 = some (m0, mo ad tC tk nu gC rC fl rS fS)) (h9 : w 9 = some (ad 9, aB g 14600 by9)) (hr : r < 200) : Mt l g yX8_digestOf cX8_digestOf 3 none 3 0 0 w [.ref m0, .int (nI r)] (fun v w' => v = none ∧ (∃ rs' : Nat → Int32, w' 12 = some (ad 12, aB g 32 rs') ∧ ∀ j, j < 32 → rs' j = dig9 (sum9 73 (rwD by9 r)) j) ∧ ScAt g w' ad ∧ w' 0 = some (m0, mo ad tC tk nu gC rC fl (nI 128) fS) ∧ ∀ t, t ≠ 0 → (t < 11 ∨ 16 ≤ t) → w' t = w t) := by
  refine mt_of RX8 "digestOf" rfl rfl (by decide) (Nat.le_of_ble_eq_true rfl) [(0, .ref m0), (1, .int (nI r))] rfl ?_
  intro k hkl C hin
  subst hkl
  obtain ⟨⟨cu, c1, hcu⟩, sq, c2, hsq⟩ := hks
  obtain ⟨⟨rw, c11⟩, ⟨rs, c12⟩, ⟨st, c13⟩, ⟨nw, c14⟩, wd, c15⟩ := hsc
  refine r_aload_n (q := 1) C 0 dX8_digestOf_0 rfl rfl ?_
  refine r_iconst (q := 2) C (nI 0) dX8_digestOf_1 (by decide) rfl ?_
  refine r_put (q := 5) (t := 0) (w' := wd_set w 0 m0 (mo ad tC tk nu gC rC fl (nI 0) fS)) C koX8 h0 17 (by decide) q717 rfl rfl rfl rfl (Nat.le_of_ble_eq_true rfl) dX8_digestOf_2 rfl rfl ?_
  refine r_iconst (q := 6) C (nI 0) dX8_digestOf_5 (by decide) rfl ?_
  refine r_istore_n (q := 7) (lv' := [(2, .int (nI 0)), (0, .ref m0), (1, .int (nI r))]) C dX8_digestOf_6 (by decide) rfl rfl ?_
  refine r_sub (lv' := [(2, .int (nI 0)), (0, .ref m0), (1, .int (nI r))]) [0, 1, 2] rfl ?_
  have loopB : ∀ (u7 c : Nat) (rw1 : Nat → Int32) (w1 : wd_T), c + u7 = 41 → (w1 0 = some (m0, mo ad tC tk nu gC rC fl (nI (32 + c)) fS)) → (w1 11 = some (ad 11, aB g 192 rw1)) → (∀ j, j < 32 + c → rw1 j = (rwD by9 r j).toInt8.toInt32) → (∀ t, t ≠ 0 → t ≠ 11 → w1 t = w t) → V g k 3 w1 0 0 (kQ g k (fun v w' => v = none ∧ (∃ rs' : Nat → Int32, w' 12 = some (ad 12, aB g 32 rs') ∧ ∀ j, j < 32 → rs' j = dig9 (sum9 73 (rwD by9 r)) j) ∧ ScAt g w' ad ∧ w' 0 = some (m0, mo ad tC tk nu gC rC fl (nI 128) fS) ∧ ∀ t, t ≠ 0 → (t < 11 ∨ 16 ≤ t) → w' t = w t) 0 0) 49 [(2, .int (nI c)), (0, .ref m0), (1, .int (nI r))] [] := by
    intro u7
    induction u7 with
    | zero =>
      intro c rw1 w1 hi g0 g11 hA gf
      obtain rfl : c = 41 := by omega
      refine r_iload_n (q := 50) C 0 dX8_digestOf_49 rfl rfl ?_
      refine r_bipush (q := 52) C (nI 41) dX8_digestOf_50 (by decide) rfl ?_
      refine r_icmp_ge_t (tgt := 76) C dX8_digestOf_52 (by decide) ((nI_leI (a := 41) (b := 41) (by omega) (by omega)).mpr (by omega)) ?_
      refine r_aload_n (q := 77) C 1 dX8_digestOf_76 rfl rfl ?_
      refine r_callV (q := 80) (t := 0) (As := []) (st := []) C koX8 g0 (m_reckon (n := 73) (f9 := rwD by9 r) g0 ((gf 2 (by decide) (by decide)).trans c2) ((gf 1 (by decide) (by decide)).trans c1) g11 ((gf 12 (by decide) (by decide)).trans c12) ((gf 13 (by decide) (by decide)).trans c13) ((gf 14 (by decide) (by decide)).trans c14) ((gf 15 (by decide) (by decide)).trans c15) hcu hsq (by decide) (by decide) hA) q832 q829 q831 qp23 q9 rfl ⟨by decide, by decide⟩ (show (parseMethodDescriptor yX8_reckon.desc).map (fun d => d.parameters.length) = some 0 by decide +kernel) (by decide) (by decide) (by decide) (by decide) (Nat.le_of_ble_eq_true rfl) rfl dX8_digestOf_77 rfl ?_
      rintro v9 w5 ⟨rfl, ⟨rs5, e12, hrs⟩, ⟨rw5, st5, nw5, wd5, e0, e11, e13, e14, e15⟩, ef⟩
      show V g k 3 w5 0 0 (kQ g k (fun v w' => v = none ∧ (∃ rs' : Nat → Int32, w' 12 = some (ad 12, aB g 32 rs') ∧ ∀ j, j < 32 → rs' j = dig9 (sum9 73 (rwD by9 r)) j) ∧ ScAt g w' ad ∧ w' 0 = some (m0, mo ad tC tk nu gC rC fl (nI 128) fS) ∧ ∀ t, t ≠ 0 → (t < 11 ∨ 16 ≤ t) → w' t = w t) 0 0) 80 [(2, .int (nI 41)), (0, .ref m0), (1, .int (nI r))] []
      exact r_vret C rfl (by decide) (by decide) dX8_digestOf_80 ⟨rfl, ⟨rs5, e12, hrs⟩, ⟨⟨_, e11⟩, ⟨_, e12⟩, ⟨_, e13⟩, ⟨_, e14⟩, _, e15⟩, e0, fun t a b => (ef t a b).trans (gf t a (by omega))⟩
    | succ u7 ih =>
      intro c rw1 w1 hi g0 g11 hA gf
      refine r_iload_n (q := 50) C 0 dX8_digestOf_49 rfl rfl ?_
      refine r_bipush (q := 52) C (nI 41) dX8_digestOf_50 (by decide) rfl ?_
      refine r_icmp_ge_f (q := 55) (tgt := 76) C dX8_digestOf_52 (by decide) rfl (fun z => absurd ((nI_leI (a := 41) (b := c) (by omega) (by omega)).mp z) (by omega)) ?_
      refine r_aload_n (q := 56) C 1 dX8_digestOf_55 rfl rfl ?_
      refine r_aload_n (q := 57) C 1 dX8_digestOf_56 rfl rfl ?_
      refine r_get (q := 60) (t := 0) C koX8 g0 12 (by decide) q712 rfl rfl dX8_digestOf_57 rfl ?_
      refine r_bipush (q := 62) C (nI 73) dX8_digestOf_60 (by decide) rfl ?_
      refine r_iload_n (q := 63) C 2 dX8_digestOf_62 rfl rfl ?_
      refine r_imul (q := 64) C dX8_digestOf_63 rfl ?_
      refine r_ti (show ((nI 73) * (nI r) : Int32) = nI (73 * r) from pk_mul 73 r) ?_
      refine r_iload_n (q := 65) C 0 dX8_digestOf_64 rfl rfl ?_
      refine r_iadd (q := 66) C dX8_digestOf_65 rfl ?_
      refine r_ti (show ((nI (73 * r)) + (nI c) : Int32) = nI (73 * r + c) from nI_add (73 * r) c) ?_
      refine r_bald (q := 67) (t := 9) C ((gf 9 (by decide) (by decide)).trans h9) (73 * r + c) rfl (by omega) (by decide) dX8_digestOf_66 rfl ?_
      refine r_callV (q := 70) (t := 0) (As := [.int (by9 (73 * r + c))]) (st := []) C koX8 g0 (m_lay g0 g11 (by omega)) q828 q825 q827 qp22 q9 rfl ⟨by decide, by decide⟩ (show (parseMethodDescriptor yX8_lay.desc).map (fun d => d.parameters.length) = some 1 by decide +kernel) (by decide) (by decide) (by decide) (by decide) (Nat.le_of_ble_eq_true rfl) rfl dX8_digestOf_67 rfl ?_
      rintro v9 w5 ⟨rfl, e30, e31, e3f⟩
      show V g k 3 w5 0 0 (kQ g k (fun v w' => v = none ∧ (∃ rs' : Nat → Int32, w' 12 = some (ad 12, aB g 32 rs') ∧ ∀ j, j < 32 → rs' j = dig9 (sum9 73 (rwD by9 r)) j) ∧ ScAt g w' ad ∧ w' 0 = some (m0, mo ad tC tk nu gC rC fl (nI 128) fS) ∧ ∀ t, t ≠ 0 → (t < 11 ∨ 16 ≤ t) → w' t = w t) 0 0) 70 [(2, .int (nI c)), (0, .ref m0), (1, .int (nI r))] []
      refine r_iinc (q := 73) (v := nI (c + 1)) (lv' := [(2, .int (nI (c + 1))), (0, .ref m0), (1, .int (nI r))]) C 0 dX8_digestOf_70 rfl (nI_1 c) (by decide) rfl rfl ?_
      refine r_goto (tgt := 49) C dX8_digestOf_73 (by decide) ?_
      refine r_sub (lv' := [(2, .int (nI (c + 1))), (0, .ref m0), (1, .int (nI r))]) [0, 1, 2] rfl ?_
      refine ih (c + 1) _ _ (by omega) e30 e31 (fun j hj => ?_) (fun t a b => (e3f t a b).trans (gf t a b))
      unfold upd
      by_cases z : j = 32 + c
      · rw [if_pos z, z, rwD_2]
      · rw [if_neg z, hA j (by omega)]
  have loopA : ∀ (u7 c : Nat) (rw1 : Nat → Int32) (w1 : wd_T), c + u7 = 32 → (w1 0 = some (m0, mo ad tC tk nu gC rC fl (nI c) fS)) → (w1 11 = some (ad 11, aB g 192 rw1)) → (∀ j, j < c → rw1 j = (rwD by9 r j).toInt8.toInt32) → (∀ t, t ≠ 0 → t ≠ 11 → w1 t = w t) → V g k 3 w1 0 0 (kQ g k (fun v w' => v = none ∧ (∃ rs' : Nat → Int32, w' 12 = some (ad 12, aB g 32 rs') ∧ ∀ j, j < 32 → rs' j = dig9 (sum9 73 (rwD by9 r)) j) ∧ ScAt g w' ad ∧ w' 0 = some (m0, mo ad tC tk nu gC rC fl (nI 128) fS) ∧ ∀ t, t ≠ 0 → (t < 11 ∨ 16 ≤ t) → w' t = w t) 0 0) 7 [(2, .int (nI c)), (0, .ref m0), (1, .int (nI r))] [] := by
    intro u7
    induction u7 with
    | zero =>
      intro c rw1 w1 hi g0 g11 hA gf
      refine r_iload_n (q := 8) C 0 dX8_digestOf_7 rfl rfl ?_
      refine r_bipush (q := 10) C (nI 32) dX8_digestOf_8 (by decide) rfl ?_
      refine r_icmp_ge_t (tgt := 47) C dX8_digestOf_10 (by decide) ((nI_leI (a := 32) (b := c) (by omega) (by omega)).mpr (by omega)) ?_
      obtain rfl : c = 32 := by omega
      refine r_iconst (q := 48) C (nI 0) dX8_digestOf_47 (by decide) rfl ?_
      refine r_istore_n (q := 49) (lv' := [(2, .int (nI 0)), (0, .ref m0), (1, .int (nI r))]) C dX8_digestOf_48 (by decide) rfl rfl ?_
      refine r_sub (lv' := [(2, .int (nI 0)), (0, .ref m0), (1, .int (nI r))]) [0, 1, 2] rfl ?_
      exact loopB 41 0 rw1 w1 (by omega) g0 g11 hA gf
    | succ u7 ih =>
      intro c rw1 w1 hi g0 g11 hA gf
      refine r_iload_n (q := 8) C 0 dX8_digestOf_7 rfl rfl ?_
      refine r_bipush (q := 10) C (nI 32) dX8_digestOf_8 (by decide) rfl ?_
      refine r_icmp_ge_f (q := 13) (tgt := 47) C dX8_digestOf_10 (by decide) rfl (fun z => absurd ((nI_leI (a := 32) (b := c) (by omega) (by omega)).mp z) (by omega)) ?_
      refine r_aload_n (q := 14) C 1 dX8_digestOf_13 rfl rfl ?_
      refine r_iload_n (q := 15) C 2 dX8_digestOf_14 rfl rfl ?_
      refine r_if_ne (q := 18) (tgt := 22) C dX8_digestOf_15 (by decide) rfl (fun hc7 => ?_) (fun hc7 => ?_)
      · have hc7 : ¬ r = 0 := fun z => hc7 ((nI_eq (a := r) (b := 0) (by omega) (by omega)).mpr z)
        refine r_aload_n (q := 23) C 1 dX8_digestOf_22 rfl rfl ?_
        refine r_get (q := 26) (t := 0) C koX8 g0 12 (by decide) q712 rfl rfl dX8_digestOf_23 rfl ?_
        refine r_bipush (q := 28) C (nI 73) dX8_digestOf_26 (by decide) rfl ?_
        refine r_iload_n (q := 29) C 2 dX8_digestOf_28 rfl rfl ?_
        refine r_iconst (q := 30) C (nI 1) dX8_digestOf_29 (by decide) rfl ?_
        refine r_isub (q := 31) C dX8_digestOf_30 rfl ?_
        refine r_ti (show ((nI r) - (nI 1) : Int32) = nI (r - 1) from pk_sub (by omega)) ?_
        refine r_imul (q := 32) C dX8_digestOf_31 rfl ?_
        refine r_ti (show ((nI 73) * (nI (r - 1)) : Int32) = nI (73 * (r - 1)) from pk_mul 73 (r - 1)) ?_
        refine r_bipush (q := 34) C (nI 41) dX8_digestOf_32 (by decide) rfl ?_
        refine r_iadd (q := 35) C dX8_digestOf_34 rfl ?_
        refine r_ti (show ((nI (73 * (r - 1))) + (nI 41) : Int32) = nI (73 * (r - 1) + 41) from nI_add (73 * (r - 1)) 41) ?_
        refine r_iload_n (q := 36) C 0 dX8_digestOf_35 rfl rfl ?_
        refine r_iadd (q := 37) C dX8_digestOf_36 rfl ?_
        refine r_ti (show ((nI (73 * (r - 1) + 41)) + (nI c) : Int32) = nI (73 * (r - 1) + 41 + c) from nI_add (73 * (r - 1) + 41) c) ?_
        refine r_bald (q := 38) (t := 9) C ((gf 9 (by decide) (by decide)).trans h9) (73 * (r - 1) + 41 + c) rfl (by omega) (by decide) dX8_digestOf_37 rfl ?_
        refine r_callV (q := 41) (t := 0) (As := [.int (by9 (73 * (r - 1) + 41 + c))]) (st := []) C koX8 g0 (m_lay g0 g11 (by omega)) q828 q825 q827 qp22 q9 rfl ⟨by decide, by decide⟩ (show (parseMethodDescriptor yX8_lay.desc).map (fun d => d.parameters.length) = some 1 by decide +kernel) (by decide) (by decide) (by decide) (by decide) (Nat.le_of_ble_eq_true rfl) rfl dX8_digestOf_38 rfl ?_
        rintro v9 w11 ⟨rfl, e90, e91, e9f⟩
        show V g k 3 w11 0 0 (kQ g k (fun v w' => v = none ∧ (∃ rs' : Nat → Int32, w' 12 = some (ad 12, aB g 32 rs') ∧ ∀ j, j < 32 → rs' j = dig9 (sum9 73 (rwD by9 r)) j) ∧ ScAt g w' ad ∧ w' 0 = some (m0, mo ad tC tk nu gC rC fl (nI 128) fS) ∧ ∀ t, t ≠ 0 → (t < 11 ∨ 16 ≤ t) → w' t = w t) 0 0) 41 [(2, .int (nI c)), (0, .ref m0), (1, .int (nI r))] []
        refine r_iinc (q := 44) (v := nI (c + 1)) (lv' := [(2, .int (nI (c + 1))), (0, .ref m0), (1, .int (nI r))]) C 0 dX8_digestOf_41 rfl (nI_1 c) (by decide) rfl rfl ?_
        refine r_goto (tgt := 7) C dX8_digestOf_44 (by decide) ?_
        refine r_sub (lv' := [(2, .int (nI (c + 1))), (0, .ref m0), (1, .int (nI r))]) [0, 1, 2] rfl ?_
        refine ih (c + 1) _ _ (by omega) e90 e91 (fun j hj => ?_) (fun t a b => (e9f t a b).trans (gf t a b))
        unfold upd
        by_cases z : j = c
        · rw [if_pos z, z, rwD_1 (by omega) hc7]
        · rw [if_neg z, hA j (by omega)]
      · have hc7 : r = 0 := (nI_eq (a := r) (b := 0) (by omega) (by omega)).mp hc7
        refine r_iconst (q := 19) C (nI 0) dX8_digestOf_18 (by decide) rfl ?_
        refine r_goto (tgt := 38) C dX8_digestOf_19 (by decide) ?_
        refine r_callV (q := 41) (t := 0) (As := [.int (nI 0)]) (st := []) C koX8 g0 (m_lay g0 g11 (by omega)) q828 q825 q827 qp22 q9 rfl ⟨by decide, by decide⟩ (show (parseMethodDescriptor yX8_lay.desc).map (fun d => d.parameters.length) = some 1 by decide +kernel) (by decide) (by decide) (by decide) (by decide) (Nat.le_of_ble_eq_true rfl) rfl dX8_digestOf_38 rfl ?_
        rintro v9 w15 ⟨rfl, e130, e131, e13f⟩
        show V g k 3 w15 0 0 (kQ g k (fun v w' => v = none ∧ (∃ rs' : Nat → Int32, w' 12 = some (ad 12, aB g 32 rs') ∧ ∀ j, j < 32 → rs' j = dig9 (sum9 73 (rwD by9 r)) j) ∧ ScAt g w' ad ∧ w' 0 = some (m0, mo ad tC tk nu gC rC fl (nI 128) fS) ∧ ∀ t, t ≠ 0 → (t < 11 ∨ 16 ≤ t) → w' t = w t) 0 0) 41 [(2, .int (nI c)), (0, .ref m0), (1, .int (nI r))] []
        refine r_iinc (q := 44) (v := nI (c + 1)) (lv' := [(2, .int (nI (c + 1))), (0, .ref m0), (1, .int (nI r))]) C 0 dX8_digestOf_41 rfl (nI_1 c) (by decide) rfl rfl ?_
        refine r_goto (tgt := 7) C dX8_digestOf_44 (by decide) ?_
        refine r_sub (lv' := [(2, .int (nI (c + 1))), (0, .ref m0), (1, .int (nI r))]) [0, 1, 2] rfl ?_
        refine ih (c + 1) _ _ (by omega) e130 e131 (fun j hj => ?_) (fun t a b => (e13f t a b).trans (gf t a b))
        unfold upd
        by_cases z : j = c
        · rw [if_pos z, z, rwD_0 (by omega) hc7]
        · rw [if_neg z, hA j (by omega)]
  exact loopA 32 0 rw _ (by omega) wd_eq ((wd_ne (by decide)).trans c11) (fun j hj => absurd hj (Nat.not_lt_zero j)) (fun t a b => wd_ne a)

set_option maxHeartbeats 4000000 in
set_option maxRecDepth 20000 in
theorem m_dayOf {l : Launch} {g : cx_G} {w : wd_T} {n : Nat} (hn : n ≤ 8000000000) : Mt l g yX8_dayOf cX8_dayOf 2 (some .int) 0 0 0 w [.long (lN n)] (fun v w' => v = some (.int (nI (n / 86400))) ∧ w = w') := by
  refine mt_of RX8 "dayOf" rfl rfl (by decide) (Nat.le_of_ble_eq_true rfl) [(0, .long (lN n))] rfl ?_
  intro k hkl C hin
  subst hkl
  refine r_lload_n (q := 1) C 0 dX8_dayOf_0 rfl rfl ?_
  refine r_ldc2 (q := 4) (v := lN 86400) C dX8_dayOf_1 q804 rfl ?_
  refine r_ldiv (q := 5) C dX8_dayOf_4 (by decide) rfl ?_
  refine r_tl (show ((lN n) / (lN 86400) : Int64) = lN (n / 86400) from pk_lDiv (by omega) (by omega) (by omega)) ?_
  refine r_l2i (q := 6) C dX8_dayOf_5 rfl ?_
  refine r_ti (show ((lN (n / 86400)).toInt32 : Int32) = nI (n / 86400) from lN_i (n / 86400)) ?_
  exact r_iret C rfl (by decide) (by decide) dX8_dayOf_6 ⟨rfl, rfl⟩

set_option maxHeartbeats 4000000 in
set_option maxRecDepth 20000 in
theorem m_close {l : Launch} {g : cx_G} {w : wd_T} {m0 : Nat} {ad : Nat → Nat} {tC tk nu gC fl rS fS : Int32} {rN t9 : Nat} {fn : Nat → Nat} {by9 fb rD : Nat → Int32} (hks : KsAt g w ad) (hsc : ScAt g w ad) (h0 : w 0 = some (m0, mo ad tC tk nu gC (nI rN) fl rS fS)) (h6 : w 6 = some (ad 6, aL g 1800 (fun p => lN (fn p)))) (h9 : w 9 = some (ad 9, aB g 14600 (ovF by9 (73 * rN) fb))) (h10 : w 10 = some (ad 10, aI g 200 rD)) (hr : rN < 200) (ht : t9 < 200) (hf : fn (9 * t9 + 6) ≤ 8000000000) : Mt l g yX8_close cX8_close 3 (some .int) 4 0 0 w [.ref m0, .int (nI t9)] (fun v w' => v = some (.int (nI rN)) ∧ ScAt g w' ad ∧ w' 0 = some (m0, mo ad tC tk nu gC (nI (rN + 1)) fl (nI 128) fS) ∧ w' 9 = some (ad 9, aB g 14600 (apR by9 rN fb)) ∧ w' 10 = some (ad 10, aI g 200 (upd rD rN (nI (fn (9 * t9 + 6) / 86400)))) ∧ ∀ t, t ≠ 0 → (t < 9 ∨ 16 ≤ t) → w' t = w t) := by
  refine mt_of RX8 "close" rfl rfl (by decide) (Nat.le_of_ble_eq_true rfl) [(0, .ref m0), (1, .int (nI t9))] rfl ?_
  intro k hkl C hin
  subst hkl
  refine r_aload_n (q := 1) C 0 dX8_close_0 rfl rfl ?_
  refine r_aload_n (q := 2) C 0 dX8_close_1 rfl rfl ?_
  refine r_get (q := 5) (t := 0) C koX8 h0 14 (by decide) q714 rfl rfl dX8_close_2 rfl ?_
  refine r_callV (q := 8) (t := 0) (As := [.int (nI rN)]) (st := []) C koX8 h0 (m_dig hks hsc h0 h9 hr) q824 q821 q823 qp21 q9 rfl ⟨by decide, by decide⟩ (show (parseMethodDescriptor yX8_digestOf.desc).map (fun d => d.parameters.length) = some 1 by decide +kernel) (by decide) (by decide) (by decide) (by decide) (Nat.le_of_ble_eq_true rfl) rfl dX8_close_5 rfl ?_
  rintro v9 w5 ⟨rfl, ⟨rs5, e12, hrs⟩, hsc5, e0, ef⟩
  show V g k 3 w5 0 0 (kQ g k (fun v w' => v = some (.int (nI rN)) ∧ ScAt g w' ad ∧ w' 0 = some (m0, mo ad tC tk nu gC (nI (rN + 1)) fl (nI 128) fS) ∧ w' 9 = some (ad 9, aB g 14600 (apR by9 rN fb)) ∧ w' 10 = some (ad 10, aI g 200 (upd rD rN (nI (fn (9 * t9 + 6) / 86400)))) ∧ ∀ t, t ≠ 0 → (t < 9 ∨ 16 ≤ t) → w' t = w t) 0 0) 8 [(0, .ref m0), (1, .int (nI t9))] []
  refine r_iconst (q := 9) C (nI 0) dX8_close_8 (by decide) rfl ?_
  refine r_istore_n (q := 10) (lv' := [(2, .int (nI 0)), (0, .ref m0), (1, .int (nI t9))]) C dX8_close_9 (by decide) rfl rfl ?_
  refine r_sub (lv' := [(2, .int (nI 0)), (0, .ref m0), (1, .int (nI t9))]) [0, 1, 2] rfl ?_
  rw [rwD_ov] at hrs
  have loop : ∀ (r c : Nat)  (w1 : wd_T), c + r = 32 → (w1 9 = some (ad 9, aB g 14600 (clF (ovF by9 (73 * rN) fb) (73 * rN + 41) c (dig9 (sum9 73 (rw9 (pd9 by9 rN) fb)))))) → (Fr w5 w1 9 10) → V g k 3 w1 0 0 (kQ g k (fun v w' => v = some (.int (nI rN)) ∧ ScAt g w' ad ∧ w' 0 = some (m0, mo ad tC tk nu gC (nI (rN + 1)) fl (nI 128) fS) ∧ w' 9 = some (ad 9, aB g 14600 (apR by9 rN fb)) ∧ w' 10 = some (ad 10, aI g 200 (upd rD rN (nI (fn (9 * t9 + 6) / 86400)))) ∧ ∀ t, t ≠ 0 → (t < 9 ∨ 16 ≤ t) → w' t = w t) 0 0) 10 [(2, .int (nI c)), (0, .ref m0), (1, .int (nI t9))] [] := by
    intro r
    induction r with
    | zero =>
      intro c  w1 hi g9 gf
      obtain rfl : c = 32 := by omega
      refine r_iload_n (q := 11) C 0 dX8_close_10 rfl rfl ?_
      refine r_bipush (q := 13) C (nI 32) dX8_close_11 (by decide) rfl ?_
      refine r_icmp_ge_t (tgt := 45) C dX8_close_13 (by decide) ((nI_leI (a := 32) (b := 32) (by omega) (by omega)).mpr (by omega)) ?_
      refine r_aload_n (q := 46) C 1 dX8_close_45 rfl rfl ?_
      refine r_get (q := 49) (t := 0) C koX8 ((gf 0 (by decide)).trans e0) 13 (by decide) q713 rfl rfl dX8_close_46 rfl ?_
      refine r_aload_n (q := 50) C 1 dX8_close_49 rfl rfl ?_
      refine r_get (q := 53) (t := 0) C koX8 ((gf 0 (by decide)).trans e0) 14 (by decide) q714 rfl rfl dX8_close_50 rfl ?_
      refine r_aload_n (q := 54) C 1 dX8_close_53 rfl rfl ?_
      refine r_get (q := 57) (t := 0) C koX8 ((gf 0 (by decide)).trans e0) 6 (by decide) q706 rfl rfl dX8_close_54 rfl ?_
      refine r_bipush (q := 59) C (nI 9) dX8_close_57 (by decide) rfl ?_
      refine r_iload_n (q := 60) C 2 dX8_close_59 rfl rfl ?_
      refine r_imul (q := 61) C dX8_close_60 rfl ?_
      refine r_ti (show ((nI 9) * (nI t9) : Int32) = nI (9 * t9) from pk_mul 9 t9) ?_
      refine r_bipush (q := 63) C (nI 6) dX8_close_61 (by decide) rfl ?_
      refine r_iadd (q := 64) C dX8_close_63 rfl ?_
      refine r_ti (show ((nI (9 * t9)) + (nI 6) : Int32) = nI (9 * t9 + 6) from nI_add (9 * t9) 6) ?_
      refine r_lald (q := 65) (t := 6) C ((gf 6 (by decide)).trans ((ef 6 (by decide) (by decide)).trans h6)) (9 * t9 + 6) rfl (by omega) (by decide) dX8_close_64 rfl ?_
      refine r_tl (show ((fun p => lN (fn p)) (9 * t9 + 6) : Int64) = lN (fn (9 * t9 + 6)) from rfl) ?_
      refine r_callS (q := 68) (As := [.long (lN (fn (9 * t9 + 6)))]) (st := [.int (nI rN), .ref (ad 10)]) C (m_dayOf hf) q803 q801 q802 q9 ⟨by decide, by decide⟩ (show (parseMethodDescriptor yX8_dayOf.desc).map (fun d => d.parameters.length) = some 1 by decide +kernel) (by decide) (by decide) (by decide) (by decide) (Nat.le_of_ble_eq_true rfl) rfl dX8_close_65 rfl ?_
      rintro v9 w2 ⟨rfl, rfl⟩
      show V g k 3 w1 0 0 (kQ g k (fun v w' => v = some (.int (nI rN)) ∧ ScAt g w' ad ∧ w' 0 = some (m0, mo ad tC tk nu gC (nI (rN + 1)) fl (nI 128) fS) ∧ w' 9 = some (ad 9, aB g 14600 (apR by9 rN fb)) ∧ w' 10 = some (ad 10, aI g 200 (upd rD rN (nI (fn (9 * t9 + 6) / 86400)))) ∧ ∀ t, t ≠ 0 → (t < 9 ∨ 16 ≤ t) → w' t = w t) 0 0) 68 [(2, .int (nI 32)), (0, .ref m0), (1, .int (nI t9))] [.int (nI (fn (9 * t9 + 6) / 86400)), .int (nI rN), .ref (ad 10)]
      refine r_iast (q := 69) (t := 10) (w' := wd_set w1 10 (ad 10) (aI g 200 (upd rD rN (nI (fn (9 * t9 + 6) / 86400))))) C ((gf 10 (by decide)).trans ((ef 10 (by decide) (by decide)).trans h10)) rN rfl (by omega) (by decide) dX8_close_68 rfl rfl ?_
      refine r_aload_n (q := 70) C 1 dX8_close_69 rfl rfl ?_
      refine r_dup (q := 71) C dX8_close_70 rfl rfl ?_
      refine r_get (q := 74) (t := 0) C koX8 ((wd_ne (by decide)).trans ((gf 0 (by decide)).trans e0)) 14 (by decide) q714 rfl rfl dX8_close_71 rfl ?_
      refine r_iconst (q := 75) C (nI 1) dX8_close_74 (by decide) rfl ?_
      refine r_iadd (q := 76) C dX8_close_75 rfl ?_
      refine r_ti (show ((nI rN) + (nI 1) : Int32) = nI (rN + 1) from nI_add rN 1) ?_
      refine r_put (q := 79) (t := 0) (w' := wd_set (wd_set w1 10 (ad 10) (aI g 200 (upd rD rN (nI (fn (9 * t9 + 6) / 86400))))) 0 m0 (mo ad tC tk nu gC (nI (rN + 1)) fl (nI 128) fS)) C koX8 ((wd_ne (by decide)).trans ((gf 0 (by decide)).trans e0)) 14 (by decide) q714 rfl rfl rfl rfl (Nat.le_of_ble_eq_true rfl) dX8_close_76 rfl rfl ?_
      refine r_aload_n (q := 80) C 1 dX8_close_79 rfl rfl ?_
      refine r_get (q := 83) (t := 0) C koX8 wd_eq 14 (by decide) q714 rfl rfl dX8_close_80 rfl ?_
      refine r_iconst (q := 84) C (nI 1) dX8_close_83 (by decide) rfl ?_
      refine r_isub (q := 85) C dX8_close_84 rfl ?_
      refine r_ti (show ((nI (rN + 1)) - (nI 1) : Int32) = nI rN from nI_pred rN) ?_
      refine r_iret C rfl (by decide) (by decide) dX8_close_85 ⟨rfl, hsc5.kept (fun t a b => ?_), wd_eq, ?_, ((wd_ne (by decide)).trans wd_eq), fun t a b => ?_⟩
      · simp only [wd_set]; rw [if_neg (by omega), if_neg (by omega), gf t (by omega)]
      · rw [← cl_ap]; exact ((wd_ne (by decide)).trans ((wd_ne (by decide)).trans g9))
      · simp only [wd_set]; rw [if_neg (by omega), if_neg (by omega), gf t (by omega), ef t a (by omega)]
    | succ r ih =>
      intro c  w1 hi g9 gf
      refine r_iload_n (q := 11) C 0 dX8_close_10 rfl rfl ?_
      refine r_bipush (q := 13) C (nI 32) dX8_close_11 (by decide) rfl ?_
      refine r_icmp_ge_f (q := 16) (tgt := 45) C dX8_close_13 (by decide) rfl (fun z => absurd ((nI_leI (a := 32) (b := c) (by omega) (by omega)).mp z) (by omega)) ?_
      refine r_aload_n (q := 17) C 1 dX8_close_16 rfl rfl ?_
      refine r_get (q := 20) (t := 0) C koX8 ((gf 0 (by decide)).trans e0) 12 (by decide) q712 rfl rfl dX8_close_17 rfl ?_
      refine r_bipush (q := 22) C (nI 73) dX8_close_20 (by decide) rfl ?_
      refine r_aload_n (q := 23) C 1 dX8_close_22 rfl rfl ?_
      refine r_get (q := 26) (t := 0) C koX8 ((gf 0 (by decide)).trans e0) 14 (by decide) q714 rfl rfl dX8_close_23 rfl ?_
      refine r_imul (q := 27) C dX8_close_26 rfl ?_
      refine r_ti (show ((nI 73) * (nI rN) : Int32) = nI (73 * rN) from pk_mul 73 rN) ?_
      refine r_bipush (q := 29) C (nI 41) dX8_close_27 (by decide) rfl ?_
      refine r_iadd (q := 30) C dX8_close_29 rfl ?_
      refine r_ti (show ((nI (73 * rN)) + (nI 41) : Int32) = nI (73 * rN + 41) from nI_add (73 * rN) 41) ?_
      refine r_iload_n (q := 31) C 0 dX8_close_30 rfl rfl ?_
      refine r_iadd (q := 32) C dX8_close_31 rfl ?_
      refine r_ti (show ((nI (73 * rN + 41)) + (nI c) : Int32) = nI (73 * rN + 41 + c) from nI_add (73 * rN + 41) c) ?_
      refine r_aload_n (q := 33) C 1 dX8_close_32 rfl rfl ?_
      refine r_get (q := 36) (t := 0) C koX8 ((gf 0 (by decide)).trans e0) 18 (by decide) q718 rfl rfl dX8_close_33 rfl ?_
      refine r_iload_n (q := 37) C 0 dX8_close_36 rfl rfl ?_
      refine r_bald (q := 38) (t := 12) C ((gf 12 (by decide)).trans e12) c rfl (by omega) (by decide) dX8_close_37 rfl ?_
      refine r_bast (q := 39) (t := 9) (w' := wd_set w1 9 (ad 9) (aB g 14600 (upd (clF (ovF by9 (73 * rN) fb) (73 * rN + 41) c (dig9 (sum9 73 (rw9 (pd9 by9 rN) fb)))) (73 * rN + 41 + c) (rs5 c).toInt8.toInt32))) C g9 (73 * rN + 41 + c) rfl (by omega) (by decide) dX8_close_38 rfl rfl ?_
      refine r_iinc (q := 42) (v := nI (c + 1)) (lv' := [(2, .int (nI (c + 1))), (0, .ref m0), (1, .int (nI t9))]) C 0 dX8_close_39 rfl (nI_1 c) (by decide) rfl rfl ?_
      refine r_goto (tgt := 10) C dX8_close_42 (by decide) ?_
      refine r_sub (lv' := [(2, .int (nI (c + 1))), (0, .ref m0), (1, .int (nI t9))]) [0, 1, 2] rfl ?_
      refine ih (c + 1) _ (by omega) ?_ (gf.trans (Fr.set (by decide) (by decide)))
      rw [← clF_s (x := (rs5 c).toInt8.toInt32) (by rw [hrs c (by omega), dig9_8])]
      exact wd_eq
  exact loop 32 0 w5 (by omega) (by rw [show clF (ovF by9 (73 * rN) fb) (73 * rN + 41) 0 (dig9 (sum9 73 (rw9 (pd9 by9 rN) fb))) = ovF by9 (73 * rN) fb from funext fun p => if_neg (by omega)]; exact (ef 9 (by decide) (by decide)).trans h9) Fr.rfl'
