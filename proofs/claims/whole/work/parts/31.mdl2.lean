/-! the reference: reckon, digestOf -/
theorem sum9_m {n : Nat} {rw f st0 st1 st2 : Nat → Int32} (hm : ∀ j, j < 128 → rw j = pad9 n f j) (h0 : ∀ j, j < 8 → st0 j = kSq j) (h1 : ∀ j, j < 8 → st1 j = cmp9 rw 0 st0 j) (h2 : ∀ j, j < 8 → st2 j = cmp9 rw 64 st1 j) : ∀ j, j < 8 → st2 j = sum9 n f j := by
  have e : ∀ j, j < 8 → st1 j = cmp9 (pad9 n f) 0 kSq j := by
    intro j hj
    rw [h1 j hj, cmp9_congr (N := pad9 n f) st0 (fun j a b => by rw [hm j (by omega)]), cmp9_st h0 j hj]
  intro j hj
  rw [h2 j hj, cmp9_congr (N := pad9 n f) st1 (fun j a b => by rw [hm j (by omega)]), cmp9_st e j hj]
  rfl
theorem dig_s {st S : Nat → Int32} {k : Nat} (hk : k < 32) (h : ∀ j, j < 8 → st j = S j) : (st (k / 4) >>> (nI (24 - 8 * (k % 4)) &&& 31)).toInt8.toInt32 = dig9 S k := by
  rw [sgn_us (by omega), ← dig9_congr h hk]
  rfl
set_option maxHeartbeats 4000000 in
set_option maxRecDepth 20000 in
theorem m_reckon {l : Launch} {g : cx_G} {w : wd_T} {m0 : Nat} {ad : Nat → Nat} {tC tk nu gC rC fl fS : Int32} {n : Nat} {f9 : Nat → Int32} {cu sq rw rs st nw wd : Nat → Int32} (h0 : w 0 = some (m0, mo ad tC tk nu gC rC fl (nI n) fS)) (h2 : w 2 = some (ad 2, aI g 8 sq)) (h1 : w 1 = some (ad 1, aI g 64 cu)) (h11 : w 11 = some (ad 11, aB g 192 rw)) (h12 : w 12 = some (ad 12, aB g 32 rs)) (h13 : w 13 = some (ad 13, aI g 8 st)) (h14 : w 14 = some (ad 14, aI g 8 nw)) (h15 : w 15 = some (ad 15, aI g 64 wd)) (hcu : ∀ j, j < 64 → cu j = kCu j) (hsq : ∀ j, j < 8 → sq j = kSq j) (hn : 57 ≤ n) (hn2 : n ≤ 119) (hm : ∀ j, j < n → rw j = (f9 j).toInt8.toInt32) : Mt l g yX8_reckon cX8_reckon 3 none 2 0 0 w [.ref m0] (fun v w' => v = none ∧ (∃ rs' : Nat → Int32, w' 12 = some (ad 12, aB g 32 rs') ∧ ∀ j, j < 32 → rs' j = dig9 (sum9 n f9) j) ∧ (∃ rw' st' nw' wd' : Nat → Int32, w' 0 = some (m0, mo ad tC tk nu gC rC fl (nI 128) fS) ∧ w' 11 = some (ad 11, aB g 192 rw') ∧ w' 13 = some (ad 13, aI g 8 st') ∧ w' 14 = some (ad 14, aI g 8 nw') ∧ w' 15 = some (ad 15, aI g 64 wd')) ∧ ∀ t, t ≠ 0 → (t < 11 ∨ 16 ≤ t) → w' t = w t) := by
  refine mt_of RX8 "reckon" rfl rfl (by decide) (Nat.le_of_ble_eq_true rfl) [(0, .ref m0)] rfl ?_
  intro k hkl C hin
  subst hkl
  have partE : ∀ (w2 : wd_T) (rw2 rs2 st2 nw2 wd2 : Nat → Int32), w2 0 = some (m0, mo ad tC tk nu gC rC fl (nI 128) fS) → w2 11 = some (ad 11, aB g 192 rw2) → w2 12 = some (ad 12, aB g 32 rs2) → w2 13 = some (ad 13, aI g 8 st2) → w2 14 = some (ad 14, aI g 8 nw2) → w2 15 = some (ad 15, aI g 64 wd2) → (∀ j, j < 8 → st2 j = sum9 n f9 j) → (∀ t, t ≠ 0 → (t < 11 ∨ 16 ≤ t) → w2 t = w t) → V g k 3 w2 0 0 (kQ g k (fun v w' => v = none ∧ (∃ rs' : Nat → Int32, w' 12 = some (ad 12, aB g 32 rs') ∧ ∀ j, j < 32 → rs' j = dig9 (sum9 n f9) j) ∧ (∃ rw' st' nw' wd' : Nat → Int32, w' 0 = some (m0, mo ad tC tk nu gC rC fl (nI 128) fS) ∧ w' 11 = some (ad 11, aB g 192 rw') ∧ w' 13 = some (ad 13, aI g 8 st') ∧ w' 14 = some (ad 14, aI g 8 nw') ∧ w' 15 = some (ad 15, aI g 64 wd')) ∧ ∀ t, t ≠ 0 → (t < 11 ∨ 16 ≤ t) → w' t = w t) 0 0) 116 [(2, .int (nI 0)), (0, .ref m0), (1, .int (nI (8 * n)))] [] := by
    intro w2 rw2 rs2 st2 nw2 wd2 q0 q11 q12 q13 q14 q15 hst2 qf
    have loopE : ∀ (r t : Nat) (rs1 : Nat → Int32) (w3 : wd_T), t + r = 32 → (w3 12 = some (ad 12, aB g 32 rs1)) → (∀ j, j < t → rs1 j = dig9 (sum9 n f9) j) → (Fr w2 w3 12 13) → V g k 3 w3 0 0 (kQ g k (fun v w' => v = none ∧ (∃ rs' : Nat → Int32, w' 12 = some (ad 12, aB g 32 rs') ∧ ∀ j, j < 32 → rs' j = dig9 (sum9 n f9) j) ∧ (∃ rw' st' nw' wd' : Nat → Int32, w' 0 = some (m0, mo ad tC tk nu gC rC fl (nI 128) fS) ∧ w' 11 = some (ad 11, aB g 192 rw') ∧ w' 13 = some (ad 13, aI g 8 st') ∧ w' 14 = some (ad 14, aI g 8 nw') ∧ w' 15 = some (ad 15, aI g 64 wd')) ∧ ∀ t, t ≠ 0 → (t < 11 ∨ 16 ≤ t) → w' t = w t) 0 0) 116 [(2, .int (nI t)), (0, .ref m0), (1, .int (nI (8 * n)))] [] := by
      intro r
      induction r with
      | zero =>
        intro t rs1 w3 hi g12 hrs gf
        refine r_iload_n (q := 117) C 0 dX8_reckon_116 rfl rfl ?_
        refine r_bipush (q := 119) C (nI 32) dX8_reckon_117 (by decide) rfl ?_
        refine r_icmp_ge_t (tgt := 153) C dX8_reckon_119 (by decide) ((nI_leI (a := 32) (b := t) (by omega) (by omega)).mpr (by omega)) ?_
        obtain rfl : t = 32 := by omega
        exact r_vret C rfl (by decide) (by decide) dX8_reckon_153 ⟨rfl, ⟨rs1, g12, hrs⟩, ⟨_, _, _, _, (gf 0 (by decide)).trans q0, (gf 11 (by decide)).trans q11, (gf 13 (by decide)).trans q13, (gf 14 (by decide)).trans q14, (gf 15 (by decide)).trans q15⟩, fun t a b => (gf t (by omega)).trans (qf t a b)⟩
      | succ r ih =>
        intro t rs1 w3 hi g12 hrs gf
        refine r_iload_n (q := 117) C 0 dX8_reckon_116 rfl rfl ?_
        refine r_bipush (q := 119) C (nI 32) dX8_reckon_117 (by decide) rfl ?_
        refine r_icmp_ge_f (q := 122) (tgt := 153) C dX8_reckon_119 (by decide) rfl (fun z => absurd ((nI_leI (a := 32) (b := t) (by omega) (by omega)).mp z) (by omega)) ?_
        refine r_aload_n (q := 123) C 1 dX8_reckon_122 rfl rfl ?_
        refine r_get (q := 126) (t := 0) C koX8 ((gf 0 (by decide)).trans q0) 18 (by decide) q718 rfl rfl dX8_reckon_123 rfl ?_
        refine r_iload_n (q := 127) C 0 dX8_reckon_126 rfl rfl ?_
        refine r_aload_n (q := 128) C 1 dX8_reckon_127 rfl rfl ?_
        refine r_get (q := 131) (t := 0) C koX8 ((gf 0 (by decide)).trans q0) 19 (by decide) q719 rfl rfl dX8_reckon_128 rfl ?_
        refine r_iload_n (q := 132) C 0 dX8_reckon_131 rfl rfl ?_
        refine r_iconst (q := 133) C (nI 4) dX8_reckon_132 (by decide) rfl ?_
        refine r_idiv (q := 134) C dX8_reckon_133 (by decide) rfl ?_
        refine r_ti (show ((nI t) / (nI 4) : Int32) = nI (t / 4) from pk_div (by omega) (by omega) (by omega)) ?_
        refine r_iald (q := 135) (t := 13) C ((gf 13 (by decide)).trans q13) (t / 4) rfl (by omega) (by decide) dX8_reckon_134 rfl ?_
        refine r_bipush (q := 137) C (nI 24) dX8_reckon_135 (by decide) rfl ?_
        refine r_bipush (q := 139) C (nI 8) dX8_reckon_137 (by decide) rfl ?_
        refine r_iload_n (q := 140) C 0 dX8_reckon_139 rfl rfl ?_
        refine r_iconst (q := 141) C (nI 4) dX8_reckon_140 (by decide) rfl ?_
        refine r_irem (q := 142) C dX8_reckon_141 (by decide) rfl ?_
        refine r_ti (show ((nI t) - (nI t) / (nI 4) * (nI 4) : Int32) = nI (t % 4) from pk_rem (by omega) (by omega) (by omega)) ?_
        refine r_imul (q := 143) C dX8_reckon_142 rfl ?_
        refine r_ti (show ((nI 8) * (nI (t % 4)) : Int32) = nI (8 * (t % 4)) from pk_mul 8 (t % 4)) ?_
        refine r_isub (q := 144) C dX8_reckon_143 rfl ?_
        refine r_ti (show ((nI 24) - (nI (8 * (t % 4))) : Int32) = nI (24 - (8 * (t % 4))) from pk_sub (by omega)) ?_
        refine r_ishr (q := 145) C dX8_reckon_144 rfl ?_
        refine r_i2b (q := 146) C dX8_reckon_145 rfl ?_
        refine r_bast8 (q := 147) (t := 12) (w' := wd_set w3 12 (ad 12) (aB g 32 (upd rs1 t ((st2 (t / 4)) >>> ((nI (24 - (8 * (t % 4)))) &&& 31)).toInt8.toInt32))) C g12 t rfl (by omega) (by decide) dX8_reckon_146 rfl rfl ?_
        refine r_iinc (q := 150) (v := nI (t + 1)) (lv' := [(2, .int (nI (t + 1))), (0, .ref m0), (1, .int (nI (8 * n)))]) C 0 dX8_reckon_147 rfl (nI_1 t) (by decide) rfl rfl ?_
        refine r_goto (tgt := 116) C dX8_reckon_150 (by decide) ?_
        refine r_sub (lv' := [(2, .int (nI (t + 1))), (0, .ref m0), (1, .int (nI (8 * n)))]) [0, 1, 2] rfl ?_
        refine ih (t + 1) _ _ (by omega) wd_eq (fun j hj => ?_) (gf.trans (Fr.set (by decide) (by decide)))
        unfold upd
        by_cases z : j = t
        · subst z; rw [if_pos rfl]; exact dig_s (by omega) hst2
        · rw [if_neg z, hrs j (by omega)]
    exact loopE 32 0 rs2 w2 (by omega) q12 (fun j hj => absurd hj (Nat.not_lt_zero j)) Fr.rfl'
  have partC : ∀ (w2 : wd_T) (rw2 : Nat → Int32), w2 0 = some (m0, mo ad tC tk nu gC rC fl (nI 128) fS) → w2 11 = some (ad 11, aB g 192 rw2) → (∀ j, j < 128 → rw2 j = pad9 n f9 j) → (∀ t, t ≠ 0 → t ≠ 11 → w2 t = w t) → V g k 3 w2 0 0 (kQ g k (fun v w' => v = none ∧ (∃ rs' : Nat → Int32, w' 12 = some (ad 12, aB g 32 rs') ∧ ∀ j, j < 32 → rs' j = dig9 (sum9 n f9) j) ∧ (∃ rw' st' nw' wd' : Nat → Int32, w' 0 = some (m0, mo ad tC tk nu gC rC fl (nI 128) fS) ∧ w' 11 = some (ad 11, aB g 192 rw') ∧ w' 13 = some (ad 13, aI g 8 st') ∧ w' 14 = some (ad 14, aI g 8 nw') ∧ w' 15 = some (ad 15, aI g 64 wd')) ∧ ∀ t, t ≠ 0 → (t < 11 ∨ 16 ≤ t) → w' t = w t) 0 0) 69 [(2, .int (nI 0)), (0, .ref m0), (1, .int (nI (8 * n)))] [] := by
    intro w2 rw2 q0 q11 hpad qf
    have loopC : ∀ (r t : Nat) (st1 : Nat → Int32) (w3 : wd_T), t + r = 8 → (w3 13 = some (ad 13, aI g 8 st1)) → (∀ j, j < t → st1 j = sq j) → (Fr w2 w3 13 14) → V g k 3 w3 0 0 (kQ g k (fun v w' => v = none ∧ (∃ rs' : Nat → Int32, w' 12 = some (ad 12, aB g 32 rs') ∧ ∀ j, j < 32 → rs' j = dig9 (sum9 n f9) j) ∧ (∃ rw' st' nw' wd' : Nat → Int32, w' 0 = some (m0, mo ad tC tk nu gC rC fl (nI 128) fS) ∧ w' 11 = some (ad 11, aB g 192 rw') ∧ w' 13 = some (ad 13, aI g 8 st') ∧ w' 14 = some (ad 14, aI g 8 nw') ∧ w' 15 = some (ad 15, aI g 64 wd')) ∧ ∀ t, t ≠ 0 → (t < 11 ∨ 16 ≤ t) → w' t = w t) 0 0) 69 [(2, .int (nI t)), (0, .ref m0), (1, .int (nI (8 * n)))] [] := by
      intro r
      induction r with
      | zero =>
        intro t st1 w3 hi g13 hs1 gf
        obtain rfl : t = 8 := by omega
        refine r_iload_n (q := 70) C 0 dX8_reckon_69 rfl rfl ?_
        refine r_bipush (q := 72) C (nI 8) dX8_reckon_70 (by decide) rfl ?_
        refine r_icmp_ge_t (tgt := 93) C dX8_reckon_72 (by decide) ((nI_leI (a := 8) (b := 8) (by omega) (by omega)).mpr (by omega)) ?_
        refine r_iconst (q := 94) C (nI 0) dX8_reckon_93 (by decide) rfl ?_
        refine r_istore_n (q := 95) (lv' := [(2, .int (nI 0)), (0, .ref m0), (1, .int (nI (8 * n)))]) C dX8_reckon_94 (by decide) rfl rfl ?_
        refine r_iload_n (q := 96) C 0 dX8_reckon_95 rfl rfl ?_
        refine r_aload_n (q := 97) C 1 dX8_reckon_96 rfl rfl ?_
        refine r_get (q := 100) (t := 0) C koX8 ((gf 0 (by decide)).trans q0) 17 (by decide) q717 rfl rfl dX8_reckon_97 rfl ?_
        have p11 : w3 11 = some (ad 11, aB g 192 rw2) := (gf 11 (by decide)).trans q11
        have p1 : w3 1 = some (ad 1, aI g 64 cu) := (gf 1 (by decide)).trans ((qf 1 (by decide) (by decide)).trans h1)
        have p12 : w3 12 = some (ad 12, aB g 32 rs) := (gf 12 (by decide)).trans ((qf 12 (by decide) (by decide)).trans h12)
        have p14 : w3 14 = some (ad 14, aI g 8 nw) := (gf 14 (by decide)).trans ((qf 14 (by decide) (by decide)).trans h14)
        have p15 : w3 15 = some (ad 15, aI g 64 wd) := (gf 15 (by decide)).trans ((qf 15 (by decide) (by decide)).trans h15)
        have p0 := (gf 0 (by decide)).trans q0
        refine r_icmp_ge_f (q := 103) (tgt := 114) C dX8_reckon_100 (by decide) rfl (fun z => absurd ((nI_leI (a := 128) (b := 0) (by omega) (by omega)).mp z) (by omega)) ?_
        refine r_aload_n (q := 104) C 1 dX8_reckon_103 rfl rfl ?_
        refine r_iload_n (q := 105) C 0 dX8_reckon_104 rfl rfl ?_
        refine r_callV (q := 108) (t := 0) (As := [.int (nI 0)]) (st := []) C koX8 ((gf 0 (by decide)).trans q0) (m_mix p0 p1 p11 g13 p14 p15 (by decide) hcu) q836 q833 q835 qp24 q9 rfl ⟨by decide, by decide⟩ (show (parseMethodDescriptor yX8_mix.desc).map (fun d => d.parameters.length) = some 1 by decide +kernel) (by decide) (by decide) (by decide) (by decide) (Nat.le_of_ble_eq_true rfl) rfl dX8_reckon_105 rfl ?_
        rintro v9 w4 ⟨rfl, ⟨st4, nw4, wd4, a13, a14, a15, hs4⟩, ef4⟩
        show V g k 3 w4 0 0 (kQ g k (fun v w' => v = none ∧ (∃ rs' : Nat → Int32, w' 12 = some (ad 12, aB g 32 rs') ∧ ∀ j, j < 32 → rs' j = dig9 (sum9 n f9) j) ∧ (∃ rw' st' nw' wd' : Nat → Int32, w' 0 = some (m0, mo ad tC tk nu gC rC fl (nI 128) fS) ∧ w' 11 = some (ad 11, aB g 192 rw') ∧ w' 13 = some (ad 13, aI g 8 st') ∧ w' 14 = some (ad 14, aI g 8 nw') ∧ w' 15 = some (ad 15, aI g 64 wd')) ∧ ∀ t, t ≠ 0 → (t < 11 ∨ 16 ≤ t) → w' t = w t) 0 0) 108 [(2, .int (nI 0)), (0, .ref m0), (1, .int (nI (8 * n)))] []
        refine r_iinc (q := 111) (v := nI 64) (lv' := [(2, .int (nI 64)), (0, .ref m0), (1, .int (nI (8 * n)))]) C 0 dX8_reckon_108 rfl (nI_add 0 64) (by decide) rfl rfl ?_
        refine r_goto (tgt := 95) C dX8_reckon_111 (by decide) ?_
        refine r_iload_n (q := 96) C 0 dX8_reckon_95 rfl rfl ?_
        refine r_aload_n (q := 97) C 1 dX8_reckon_96 rfl rfl ?_
        refine r_get (q := 100) (t := 0) C koX8 ((ef4 0 (by decide)).trans p0) 17 (by decide) q717 rfl rfl dX8_reckon_97 rfl ?_
        refine r_icmp_ge_f (q := 103) (tgt := 114) C dX8_reckon_100 (by decide) rfl (fun z => absurd ((nI_leI (a := 128) (b := 64) (by omega) (by omega)).mp z) (by omega)) ?_
        refine r_aload_n (q := 104) C 1 dX8_reckon_103 rfl rfl ?_
        refine r_iload_n (q := 105) C 0 dX8_reckon_104 rfl rfl ?_
        refine r_callV (q := 108) (t := 0) (As := [.int (nI 64)]) (st := []) C koX8 ((ef4 0 (by decide)).trans p0) (m_mix ((ef4 0 (by decide)).trans p0) ((ef4 1 (by decide)).trans p1) ((ef4 11 (by decide)).trans p11) a13 a14 a15 (by decide) hcu) q836 q833 q835 qp24 q9 rfl ⟨by decide, by decide⟩ (show (parseMethodDescriptor yX8_mix.desc).map (fun d => d.parameters.length) = some 1 by decide +kernel) (by decide) (by decide) (by decide) (by decide) (Nat.le_of_ble_eq_true rfl) rfl dX8_reckon_105 rfl ?_
        rintro v9 w5 ⟨rfl, ⟨st5, nw5, wd5, b13, b14, b15, hs5⟩, ef5⟩
        show V g k 3 w5 0 0 (kQ g k (fun v w' => v = none ∧ (∃ rs' : Nat → Int32, w' 12 = some (ad 12, aB g 32 rs') ∧ ∀ j, j < 32 → rs' j = dig9 (sum9 n f9) j) ∧ (∃ rw' st' nw' wd' : Nat → Int32, w' 0 = some (m0, mo ad tC tk nu gC rC fl (nI 128) fS) ∧ w' 11 = some (ad 11, aB g 192 rw') ∧ w' 13 = some (ad 13, aI g 8 st') ∧ w' 14 = some (ad 14, aI g 8 nw') ∧ w' 15 = some (ad 15, aI g 64 wd')) ∧ ∀ t, t ≠ 0 → (t < 11 ∨ 16 ≤ t) → w' t = w t) 0 0) 108 [(2, .int (nI 64)), (0, .ref m0), (1, .int (nI (8 * n)))] []
        refine r_iinc (q := 111) (v := nI 128) (lv' := [(2, .int (nI 128)), (0, .ref m0), (1, .int (nI (8 * n)))]) C 0 dX8_reckon_108 rfl (nI_add 64 64) (by decide) rfl rfl ?_
        refine r_goto (tgt := 95) C dX8_reckon_111 (by decide) ?_
        refine r_iload_n (q := 96) C 0 dX8_reckon_95 rfl rfl ?_
        refine r_aload_n (q := 97) C 1 dX8_reckon_96 rfl rfl ?_
        refine r_get (q := 100) (t := 0) C koX8 ((ef5 0 (by decide)).trans ((ef4 0 (by decide)).trans p0)) 17 (by decide) q717 rfl rfl dX8_reckon_97 rfl ?_
        refine r_icmp_ge_t (tgt := 114) C dX8_reckon_100 (by decide) ((nI_leI (a := 128) (b := 128) (by omega) (by omega)).mpr (by omega)) ?_
        refine r_iconst (q := 115) C (nI 0) dX8_reckon_114 (by decide) rfl ?_
        refine r_istore_n (q := 116) (lv' := [(2, .int (nI 0)), (0, .ref m0), (1, .int (nI (8 * n)))]) C dX8_reckon_115 (by decide) rfl rfl ?_
        refine r_sub (lv' := [(2, .int (nI 0)), (0, .ref m0), (1, .int (nI (8 * n)))]) [0, 1, 2] rfl ?_
        have p12 : w3 12 = some (ad 12, aB g 32 rs) := (gf 12 (by decide)).trans ((qf 12 (by decide) (by decide)).trans h12)
        exact partE w5 rw2 rs st5 nw5 wd5 ((ef5 0 (by decide)).trans ((ef4 0 (by decide)).trans p0)) ((ef5 11 (by decide)).trans ((ef4 11 (by decide)).trans p11)) ((ef5 12 (by decide)).trans ((ef4 12 (by decide)).trans p12)) b13 b14 b15 (sum9_m hpad (fun j hj => (hs1 j hj).trans (hsq j hj)) hs4 hs5) (fun t a b => (ef5 t (by omega)).trans ((ef4 t (by omega)).trans ((gf t (by omega)).trans (qf t a (by omega)))))
      | succ r ih =>
        intro t st1 w3 hi g13 hs1 gf
        refine r_iload_n (q := 70) C 0 dX8_reckon_69 rfl rfl ?_
        refine r_bipush (q := 72) C (nI 8) dX8_reckon_70 (by decide) rfl ?_
        refine r_icmp_ge_f (q := 75) (tgt := 93) C dX8_reckon_72 (by decide) rfl (fun z => absurd ((nI_leI (a := 8) (b := t) (by omega) (by omega)).mp z) (by omega)) ?_
        refine r_aload_n (q := 76) C 1 dX8_reckon_75 rfl rfl ?_
        refine r_get (q := 79) (t := 0) C koX8 ((gf 0 (by decide)).trans q0) 19 (by decide) q719 rfl rfl dX8_reckon_76 rfl ?_
        refine r_iload_n (q := 80) C 0 dX8_reckon_79 rfl rfl ?_
        refine r_aload_n (q := 81) C 1 dX8_reckon_80 rfl rfl ?_
        refine r_get (q := 84) (t := 0) C koX8 ((gf 0 (by decide)).trans q0) 1 (by decide) q701 rfl rfl dX8_reckon_81 rfl ?_
        refine r_iload_n (q := 85) C 0 dX8_reckon_84 rfl rfl ?_
        refine r_iald (q := 86) (t := 2) C ((gf 2 (by decide)).trans ((qf 2 (by decide) (by decide)).trans h2)) t rfl (by omega) (by decide) dX8_reckon_85 rfl ?_
        refine r_iast (q := 87) (t := 13) (w' := wd_set w3 13 (ad 13) (aI g 8 (upd st1 t (sq t)))) C g13 t rfl (by omega) (by decide) dX8_reckon_86 rfl rfl ?_
        refine r_iinc (q := 90) (v := nI (t + 1)) (lv' := [(2, .int (nI (t + 1))), (0, .ref m0), (1, .int (nI (8 * n)))]) C 0 dX8_reckon_87 rfl (nI_1 t) (by decide) rfl rfl ?_
        refine r_goto (tgt := 69) C dX8_reckon_90 (by decide) ?_
        refine r_sub (lv' := [(2, .int (nI (t + 1))), (0, .ref m0), (1, .int (nI (8 * n)))]) [0, 1, 2] rfl ?_
        refine ih (t + 1) _ _ (by omega) wd_eq (fun j hj => ?_) (gf.trans (Fr.set (by decide) (by decide)))
        unfold upd
        by_cases z : j = t
        · rw [if_pos z, z]
        · rw [if_neg z, hs1 j (by omega)]
    exact loopC 8 0 st w2 (by omega) ((qf 13 (by decide) (by decide)).trans h13) (fun j hj => absurd hj (Nat.not_lt_zero j)) Fr.rfl'
  refine r_bipush (q := 2) C (nI 8) dX8_reckon_0 (by decide) rfl ?_
  refine r_aload_n (q := 3) C 0 dX8_reckon_2 rfl rfl ?_
  refine r_get (q := 6) (t := 0) C koX8 h0 17 (by decide) q717 rfl rfl dX8_reckon_3 rfl ?_
  refine r_imul (q := 7) C dX8_reckon_6 rfl ?_
  refine r_ti (show ((nI 8) * (nI n) : Int32) = nI (8 * n) from pk_mul 8 n) ?_
  refine r_istore_n (q := 8) (lv' := [(1, .int (nI (8 * n))), (0, .ref m0)]) C dX8_reckon_7 (by decide) rfl rfl ?_
  refine r_aload_n (q := 9) C 1 dX8_reckon_8 rfl rfl ?_
  refine r_sipush (q := 12) C (nI 128) dX8_reckon_9 (by decide) rfl ?_
  refine r_callV (q := 15) (t := 0) (As := [.int (nI 128)]) (st := []) C koX8 h0 (m_lay h0 h11 (by omega)) q828 q825 q827 qp22 q9 rfl ⟨by decide, by decide⟩ (show (parseMethodDescriptor yX8_lay.desc).map (fun d => d.parameters.length) = some 1 by decide +kernel) (by decide) (by decide) (by decide) (by decide) (Nat.le_of_ble_eq_true rfl) rfl dX8_reckon_12 rfl ?_
  rintro v9 w7 ⟨rfl, e50, e51, e5f⟩
  show V g k 3 w7 0 0 (kQ g k (fun v w' => v = none ∧ (∃ rs' : Nat → Int32, w' 12 = some (ad 12, aB g 32 rs') ∧ ∀ j, j < 32 → rs' j = dig9 (sum9 n f9) j) ∧ (∃ rw' st' nw' wd' : Nat → Int32, w' 0 = some (m0, mo ad tC tk nu gC rC fl (nI 128) fS) ∧ w' 11 = some (ad 11, aB g 192 rw') ∧ w' 13 = some (ad 13, aI g 8 st') ∧ w' 14 = some (ad 14, aI g 8 nw') ∧ w' 15 = some (ad 15, aI g 64 wd')) ∧ ∀ t, t ≠ 0 → (t < 11 ∨ 16 ≤ t) → w' t = w t) 0 0) 15 [(1, .int (nI (8 * n))), (0, .ref m0)] []
  refine r_sub (lv' := [(0, .ref m0), (1, .int (nI (8 * n)))]) [1, 0] rfl ?_
  have loopA : ∀ (r c : Nat) (rw1 : Nat → Int32) (w1 : wd_T), c + r = 120 → (w1 0 = some (m0, mo ad tC tk nu gC rC fl (nI c) fS)) → (w1 11 = some (ad 11, aB g 192 rw1)) → (n < c) → (∀ j, j < n → rw1 j = (f9 j).toInt8.toInt32) → (rw1 n = (nI 128).toInt8.toInt32) → (∀ j, n < j → j < c → rw1 j = (nI 0).toInt8.toInt32) → (∀ t, t ≠ 0 → t ≠ 11 → w1 t = w t) → V g k 3 w1 0 0 (kQ g k (fun v w' => v = none ∧ (∃ rs' : Nat → Int32, w' 12 = some (ad 12, aB g 32 rs') ∧ ∀ j, j < 32 → rs' j = dig9 (sum9 n f9) j) ∧ (∃ rw' st' nw' wd' : Nat → Int32, w' 0 = some (m0, mo ad tC tk nu gC rC fl (nI 128) fS) ∧ w' 11 = some (ad 11, aB g 192 rw') ∧ w' 13 = some (ad 13, aI g 8 st') ∧ w' 14 = some (ad 14, aI g 8 nw') ∧ w' 15 = some (ad 15, aI g 64 wd')) ∧ ∀ t, t ≠ 0 → (t < 11 ∨ 16 ≤ t) → w' t = w t) 0 0) 15 [(0, .ref m0), (1, .int (nI (8 * n)))] [] := by
    intro r
    induction r with
    | zero =>
      intro c rw1 w1 hi g0 g11 hc1 hA hB hC gf
      obtain rfl : c = 120 := by omega
      refine r_aload_n (q := 16) C 0 dX8_reckon_15 rfl rfl ?_
      refine r_get (q := 19) (t := 0) C koX8 g0 17 (by decide) q717 rfl rfl dX8_reckon_16 rfl ?_
      refine r_bipush (q := 21) C (nI 64) dX8_reckon_19 (by decide) rfl ?_
      refine r_irem (q := 22) C dX8_reckon_21 (by decide) rfl ?_
      refine r_ti (show ((nI 120) - (nI 120) / (nI 64) * (nI 64) : Int32) = nI (120 % 64) from pk_rem (by omega) (by omega) (by omega)) ?_
      refine r_bipush (q := 24) C (nI 56) dX8_reckon_22 (by decide) rfl ?_
      refine r_icmp_eq_t (tgt := 35) C dX8_reckon_24 (by decide) ((nI_eq (a := (120 % 64)) (b := 56) (by omega) (by omega)).mpr (by omega)) ?_
      refine r_bipush (q := 37) C (nI 7) dX8_reckon_35 (by decide) rfl ?_
      refine r_istore_n (q := 38) (lv' := [(2, .int (nI 7)), (0, .ref m0), (1, .int (nI (8 * n)))]) C dX8_reckon_37 (by decide) rfl rfl ?_
      refine r_iload_n (q := 39) C 0 dX8_reckon_38 rfl rfl ?_
      refine r_if_lt_f (q := 42) (tgt := 67) C dX8_reckon_39 (by decide) rfl (by decide) ?_
      refine r_aload_n (q := 43) C 1 dX8_reckon_42 rfl rfl ?_
      refine r_iload_n (q := 44) C 0 dX8_reckon_43 rfl rfl ?_
      refine r_iconst (q := 45) C (nI 3) dX8_reckon_44 (by decide) rfl ?_
      refine r_icmp_le_f (q := 48) (tgt := 52) C dX8_reckon_45 (by decide) rfl (fun z => absurd ((nI_leI (a := 7) (b := 3) (by omega) (by omega)).mp z) (by omega)) ?_
      refine r_iconst (q := 49) C (nI 0) dX8_reckon_48 (by decide) rfl ?_
      refine r_goto (tgt := 58) C dX8_reckon_49 (by decide) ?_
      refine r_callV (q := 61) (t := 0) (As := [.int (nI 0)]) (st := []) C koX8 g0 (m_lay g0 g11 (by omega)) q828 q825 q827 qp22 q9 rfl ⟨by decide, by decide⟩ (show (parseMethodDescriptor yX8_lay.desc).map (fun d => d.parameters.length) = some 1 by decide +kernel) (by decide) (by decide) (by decide) (by decide) (Nat.le_of_ble_eq_true rfl) rfl dX8_reckon_58 rfl ?_
      rintro v9 w10 ⟨rfl, e80, e81, e8f⟩
      show V g k 3 w10 0 0 (kQ g k (fun v w' => v = none ∧ (∃ rs' : Nat → Int32, w' 12 = some (ad 12, aB g 32 rs') ∧ ∀ j, j < 32 → rs' j = dig9 (sum9 n f9) j) ∧ (∃ rw' st' nw' wd' : Nat → Int32, w' 0 = some (m0, mo ad tC tk nu gC rC fl (nI 128) fS) ∧ w' 11 = some (ad 11, aB g 192 rw') ∧ w' 13 = some (ad 13, aI g 8 st') ∧ w' 14 = some (ad 14, aI g 8 nw') ∧ w' 15 = some (ad 15, aI g 64 wd')) ∧ ∀ t, t ≠ 0 → (t < 11 ∨ 16 ≤ t) → w' t = w t) 0 0) 61 [(2, .int (nI 7)), (0, .ref m0), (1, .int (nI (8 * n)))] []
      refine r_iinc (q := 64) (v := nI 6) (lv' := [(2, .int (nI 6)), (0, .ref m0), (1, .int (nI (8 * n)))]) C 0 dX8_reckon_61 rfl (by decide) (by decide) rfl rfl ?_
      refine r_goto (tgt := 38) C dX8_reckon_64 (by decide) ?_
      refine r_iload_n (q := 39) C 0 dX8_reckon_38 rfl rfl ?_
      refine r_if_lt_f (q := 42) (tgt := 67) C dX8_reckon_39 (by decide) rfl (by decide) ?_
      refine r_aload_n (q := 43) C 1 dX8_reckon_42 rfl rfl ?_
      refine r_iload_n (q := 44) C 0 dX8_reckon_43 rfl rfl ?_
      refine r_iconst (q := 45) C (nI 3) dX8_reckon_44 (by decide) rfl ?_
      refine r_icmp_le_f (q := 48) (tgt := 52) C dX8_reckon_45 (by decide) rfl (fun z => absurd ((nI_leI (a := 6) (b := 3) (by omega) (by omega)).mp z) (by omega)) ?_
      refine r_iconst (q := 49) C (nI 0) dX8_reckon_48 (by decide) rfl ?_
      refine r_goto (tgt := 58) C dX8_reckon_49 (by decide) ?_
      refine r_callV (q := 61) (t := 0) (As := [.int (nI 0)]) (st := []) C koX8 e80 (m_lay e80 e81 (by omega)) q828 q825 q827 qp22 q9 rfl ⟨by decide, by decide⟩ (show (parseMethodDescriptor yX8_lay.desc).map (fun d => d.parameters.length) = some 1 by decide +kernel) (by decide) (by decide) (by decide) (by decide) (Nat.le_of_ble_eq_true rfl) rfl dX8_reckon_58 rfl ?_
      rintro v9 w13 ⟨rfl, e110, e111, e11f⟩
      show V g k 3 w13 0 0 (kQ g k (fun v w' => v = none ∧ (∃ rs' : Nat → Int32, w' 12 = some (ad 12, aB g 32 rs') ∧ ∀ j, j < 32 → rs' j = dig9 (sum9 n f9) j) ∧ (∃ rw' st' nw' wd' : Nat → Int32, w' 0 = some (m0, mo ad tC tk nu gC rC fl (nI 128) fS) ∧ w' 11 = some (ad 11, aB g 192 rw') ∧ w' 13 = some (ad 13, aI g 8 st') ∧ w' 14 = some (ad 14, aI g 8 nw') ∧ w' 15 = some (ad 15, aI g 64 wd')) ∧ ∀ t, t ≠ 0 → (t < 11 ∨ 16 ≤ t) → w' t = w t) 0 0) 61 [(2, .int (nI 6)), (0, .ref m0), (1, .int (nI (8 * n)))] []
      refine r_iinc (q := 64) (v := nI 5) (lv' := [(2, .int (nI 5)), (0, .ref m0), (1, .int (nI (8 * n)))]) C 0 dX8_reckon_61 rfl (by decide) (by decide) rfl rfl ?_
      refine r_goto (tgt := 38) C dX8_reckon_64 (by decide) ?_
      refine r_iload_n (q := 39) C 0 dX8_reckon_38 rfl rfl ?_
      refine r_if_lt_f (q := 42) (tgt := 67) C dX8_reckon_39 (by decide) rfl (by decide) ?_
      refine r_aload_n (q := 43) C 1 dX8_reckon_42 rfl rfl ?_
      refine r_iload_n (q := 44) C 0 dX8_reckon_43 rfl rfl ?_
      refine r_iconst (q := 45) C (nI 3) dX8_reckon_44 (by decide) rfl ?_
      refine r_icmp_le_f (q := 48) (tgt := 52) C dX8_reckon_45 (by decide) rfl (fun z => absurd ((nI_leI (a := 5) (b := 3) (by omega) (by omega)).mp z) (by omega)) ?_
      refine r_iconst (q := 49) C (nI 0) dX8_reckon_48 (by decide) rfl ?_
      refine r_goto (tgt := 58) C dX8_reckon_49 (by decide) ?_
      refine r_callV (q := 61) (t := 0) (As := [.int (nI 0)]) (st := []) C koX8 e110 (m_lay e110 e111 (by omega)) q828 q825 q827 qp22 q9 rfl ⟨by decide, by decide⟩ (show (parseMethodDescriptor yX8_lay.desc).map (fun d => d.parameters.length) = some 1 by decide +kernel) (by decide) (by decide) (by decide) (by decide) (Nat.le_of_ble_eq_true rfl) rfl dX8_reckon_58 rfl ?_
      rintro v9 w16 ⟨rfl, e140, e141, e14f⟩
      show V g k 3 w16 0 0 (kQ g k (fun v w' => v = none ∧ (∃ rs' : Nat → Int32, w' 12 = some (ad 12, aB g 32 rs') ∧ ∀ j, j < 32 → rs' j = dig9 (sum9 n f9) j) ∧ (∃ rw' st' nw' wd' : Nat → Int32, w' 0 = some (m0, mo ad tC tk nu gC rC fl (nI 128) fS) ∧ w' 11 = some (ad 11, aB g 192 rw') ∧ w' 13 = some (ad 13, aI g 8 st') ∧ w' 14 = some (ad 14, aI g 8 nw') ∧ w' 15 = some (ad 15, aI g 64 wd')) ∧ ∀ t, t ≠ 0 → (t < 11 ∨ 16 ≤ t) → w' t = w t) 0 0) 61 [(2, .int (nI 5)), (0, .ref m0), (1, .int (nI (8 * n)))] []
      refine r_iinc (q := 64) (v := nI 4) (lv' := [(2, .int (nI 4)), (0, .ref m0), (1, .int (nI (8 * n)))]) C 0 dX8_reckon_61 rfl (by decide) (by decide) rfl rfl ?_
      refine r_goto (tgt := 38) C dX8_reckon_64 (by decide) ?_
      refine r_iload_n (q := 39) C 0 dX8_reckon_38 rfl rfl ?_
      refine r_if_lt_f (q := 42) (tgt := 67) C dX8_reckon_39 (by decide) rfl (by decide) ?_
      refine r_aload_n (q := 43) C 1 dX8_reckon_42 rfl rfl ?_
      refine r_iload_n (q := 44) C 0 dX8_reckon_43 rfl rfl ?_
      refine r_iconst (q := 45) C (nI 3) dX8_reckon_44 (by decide) rfl ?_
      refine r_icmp_le_f (q := 48) (tgt := 52) C dX8_reckon_45 (by decide) rfl (fun z => absurd ((nI_leI (a := 4) (b := 3) (by omega) (by omega)).mp z) (by omega)) ?_
      refine r_iconst (q := 49) C (nI 0) dX8_reckon_48 (by decide) rfl ?_
      refine r_goto (tgt := 58) C dX8_reckon_49 (by decide) ?_
      refine r_callV (q := 61) (t := 0) (As := [.int (nI 0)]) (st := []) C koX8 e140 (m_lay e140 e141 (by omega)) q828 q825 q827 qp22 q9 rfl ⟨by decide, by decide⟩ (show (parseMethodDescriptor yX8_lay.desc).map (fun d => d.parameters.length) = some 1 by decide +kernel) (by decide) (by decide) (by decide) (by decide) (Nat.le_of_ble_eq_true rfl) rfl dX8_reckon_58 rfl ?_
      rintro v9 w19 ⟨rfl, e170, e171, e17f⟩
      show V g k 3 w19 0 0 (kQ g k (fun v w' => v = none ∧ (∃ rs' : Nat → Int32, w' 12 = some (ad 12, aB g 32 rs') ∧ ∀ j, j < 32 → rs' j = dig9 (sum9 n f9) j) ∧ (∃ rw' st' nw' wd' : Nat → Int32, w' 0 = some (m0, mo ad tC tk nu gC rC fl (nI 128) fS) ∧ w' 11 = some (ad 11, aB g 192 rw') ∧ w' 13 = some (ad 13, aI g 8 st') ∧ w' 14 = some (ad 14, aI g 8 nw') ∧ w' 15 = some (ad 15, aI g 64 wd')) ∧ ∀ t, t ≠ 0 → (t < 11 ∨ 16 ≤ t) → w' t = w t) 0 0) 61 [(2, .int (nI 4)), (0, .ref m0), (1, .int (nI (8 * n)))] []
      refine r_iinc (q := 64) (v := nI 3) (lv' := [(2, .int (nI 3)), (0, .ref m0), (1, .int (nI (8 * n)))]) C 0 dX8_reckon_61 rfl (by decide) (by decide) rfl rfl ?_
      refine r_goto (tgt := 38) C dX8_reckon_64 (by decide) ?_
      refine r_iload_n (q := 39) C 0 dX8_reckon_38 rfl rfl ?_
      refine r_if_lt_f (q := 42) (tgt := 67) C dX8_reckon_39 (by decide) rfl (by decide) ?_
      refine r_aload_n (q := 43) C 1 dX8_reckon_42 rfl rfl ?_
      refine r_iload_n (q := 44) C 0 dX8_reckon_43 rfl rfl ?_
      refine r_iconst (q := 45) C (nI 3) dX8_reckon_44 (by decide) rfl ?_
      refine r_icmp_le_t (tgt := 52) C dX8_reckon_45 (by decide) ((nI_leI (a := 3) (b := 3) (by omega) (by omega)).mpr (by omega)) ?_
      refine r_iload_n (q := 53) C 2 dX8_reckon_52 rfl rfl ?_
      refine r_bipush (q := 55) C (nI 8) dX8_reckon_53 (by decide) rfl ?_
      refine r_iload_n (q := 56) C 0 dX8_reckon_55 rfl rfl ?_
      refine r_imul (q := 57) C dX8_reckon_56 rfl ?_
      refine r_ti (show ((nI 8) * (nI 3) : Int32) = nI (8 * 3) from pk_mul 8 3) ?_
      refine r_ishr (q := 58) C dX8_reckon_57 rfl ?_
      refine r_ti (show ((nI (8 * n)) >>> ((nI (8 * 3)) &&& 31) : Int32) = nI (8 * n / 2 ^ 24) from nI_shr (by omega) (by decide)) ?_
      refine r_callV (q := 61) (t := 0) (As := [.int (nI (8 * n / 2 ^ 24))]) (st := []) C koX8 e170 (m_lay e170 e171 (by omega)) q828 q825 q827 qp22 q9 rfl ⟨by decide, by decide⟩ (show (parseMethodDescriptor yX8_lay.desc).map (fun d => d.parameters.length) = some 1 by decide +kernel) (by decide) (by decide) (by decide) (by decide) (Nat.le_of_ble_eq_true rfl) rfl dX8_reckon_58 rfl ?_
      rintro v9 w22 ⟨rfl, e200, e201, e20f⟩
      show V g k 3 w22 0 0 (kQ g k (fun v w' => v = none ∧ (∃ rs' : Nat → Int32, w' 12 = some (ad 12, aB g 32 rs') ∧ ∀ j, j < 32 → rs' j = dig9 (sum9 n f9) j) ∧ (∃ rw' st' nw' wd' : Nat → Int32, w' 0 = some (m0, mo ad tC tk nu gC rC fl (nI 128) fS) ∧ w' 11 = some (ad 11, aB g 192 rw') ∧ w' 13 = some (ad 13, aI g 8 st') ∧ w' 14 = some (ad 14, aI g 8 nw') ∧ w' 15 = some (ad 15, aI g 64 wd')) ∧ ∀ t, t ≠ 0 → (t < 11 ∨ 16 ≤ t) → w' t = w t) 0 0) 61 [(2, .int (nI 3)), (0, .ref m0), (1, .int (nI (8 * n)))] []
      refine r_iinc (q := 64) (v := nI 2) (lv' := [(2, .int (nI 2)), (0, .ref m0), (1, .int (nI (8 * n)))]) C 0 dX8_reckon_61 rfl (by decide) (by decide) rfl rfl ?_
      refine r_goto (tgt := 38) C dX8_reckon_64 (by decide) ?_
      refine r_iload_n (q := 39) C 0 dX8_reckon_38 rfl rfl ?_
      refine r_if_lt_f (q := 42) (tgt := 67) C dX8_reckon_39 (by decide) rfl (by decide) ?_
      refine r_aload_n (q := 43) C 1 dX8_reckon_42 rfl rfl ?_
      refine r_iload_n (q := 44) C 0 dX8_reckon_43 rfl rfl ?_
      refine r_iconst (q := 45) C (nI 3) dX8_reckon_44 (by decide) rfl ?_
      refine r_icmp_le_t (tgt := 52) C dX8_reckon_45 (by decide) ((nI_leI (a := 2) (b := 3) (by omega) (by omega)).mpr (by omega)) ?_
      refine r_iload_n (q := 53) C 2 dX8_reckon_52 rfl rfl ?_
      refine r_bipush (q := 55) C (nI 8) dX8_reckon_53 (by decide) rfl ?_
      refine r_iload_n (q := 56) C 0 dX8_reckon_55 rfl rfl ?_
      refine r_imul (q := 57) C dX8_reckon_56 rfl ?_
      refine r_ti (show ((nI 8) * (nI 2) : Int32) = nI (8 * 2) from pk_mul 8 2) ?_
      refine r_ishr (q := 58) C dX8_reckon_57 rfl ?_
      refine r_ti (show ((nI (8 * n)) >>> ((nI (8 * 2)) &&& 31) : Int32) = nI (8 * n / 2 ^ 16) from nI_shr (by omega) (by decide)) ?_
      refine r_callV (q := 61) (t := 0) (As := [.int (nI (8 * n / 2 ^ 16))]) (st := []) C koX8 e200 (m_lay e200 e201 (by omega)) q828 q825 q827 qp22 q9 rfl ⟨by decide, by decide⟩ (show (parseMethodDescriptor yX8_lay.desc).map (fun d => d.parameters.length) = some 1 by decide +kernel) (by decide) (by decide) (by decide) (by decide) (Nat.le_of_ble_eq_true rfl) rfl dX8_reckon_58 rfl ?_
      rintro v9 w25 ⟨rfl, e230, e231, e23f⟩
      show V g k 3 w25 0 0 (kQ g k (fun v w' => v = none ∧ (∃ rs' : Nat → Int32, w' 12 = some (ad 12, aB g 32 rs') ∧ ∀ j, j < 32 → rs' j = dig9 (sum9 n f9) j) ∧ (∃ rw' st' nw' wd' : Nat → Int32, w' 0 = some (m0, mo ad tC tk nu gC rC fl (nI 128) fS) ∧ w' 11 = some (ad 11, aB g 192 rw') ∧ w' 13 = some (ad 13, aI g 8 st') ∧ w' 14 = some (ad 14, aI g 8 nw') ∧ w' 15 = some (ad 15, aI g 64 wd')) ∧ ∀ t, t ≠ 0 → (t < 11 ∨ 16 ≤ t) → w' t = w t) 0 0) 61 [(2, .int (nI 2)), (0, .ref m0), (1, .int (nI (8 * n)))] []
      refine r_iinc (q := 64) (v := nI 1) (lv' := [(2, .int (nI 1)), (0, .ref m0), (1, .int (nI (8 * n)))]) C 0 dX8_reckon_61 rfl (by decide) (by decide) rfl rfl ?_
      refine r_goto (tgt := 38) C dX8_reckon_64 (by decide) ?_
      refine r_iload_n (q := 39) C 0 dX8_reckon_38 rfl rfl ?_
      refine r_if_lt_f (q := 42) (tgt := 67) C dX8_reckon_39 (by decide) rfl (by decide) ?_
      refine r_aload_n (q := 43) C 1 dX8_reckon_42 rfl rfl ?_
      refine r_iload_n (q := 44) C 0 dX8_reckon_43 rfl rfl ?_
      refine r_iconst (q := 45) C (nI 3) dX8_reckon_44 (by decide) rfl ?_
      refine r_icmp_le_t (tgt := 52) C dX8_reckon_45 (by decide) ((nI_leI (a := 1) (b := 3) (by omega) (by omega)).mpr (by omega)) ?_
      refine r_iload_n (q := 53) C 2 dX8_reckon_52 rfl rfl ?_
      refine r_bipush (q := 55) C (nI 8) dX8_reckon_53 (by decide) rfl ?_
      refine r_iload_n (q := 56) C 0 dX8_reckon_55 rfl rfl ?_
      refine r_imul (q := 57) C dX8_reckon_56 rfl ?_
      refine r_ti (show ((nI 8) * (nI 1) : Int32) = nI (8 * 1) from pk_mul 8 1) ?_
      refine r_ishr (q := 58) C dX8_reckon_57 rfl ?_
      refine r_ti (show ((nI (8 * n)) >>> ((nI (8 * 1)) &&& 31) : Int32) = nI (8 * n / 2 ^ 8) from nI_shr (by omega) (by decide)) ?_
      refine r_callV (q := 61) (t := 0) (As := [.int (nI (8 * n / 2 ^ 8))]) (st := []) C koX8 e230 (m_lay e230 e231 (by omega)) q828 q825 q827 qp22 q9 rfl ⟨by decide, by decide⟩ (show (parseMethodDescriptor yX8_lay.desc).map (fun d => d.parameters.length) = some 1 by decide +kernel) (by decide) (by decide) (by decide) (by decide) (Nat.le_of_ble_eq_true rfl) rfl dX8_reckon_58 rfl ?_
      rintro v9 w28 ⟨rfl, e260, e261, e26f⟩
      show V g k 3 w28 0 0 (kQ g k (fun v w' => v = none ∧ (∃ rs' : Nat → Int32, w' 12 = some (ad 12, aB g 32 rs') ∧ ∀ j, j < 32 → rs' j = dig9 (sum9 n f9) j) ∧ (∃ rw' st' nw' wd' : Nat → Int32, w' 0 = some (m0, mo ad tC tk nu gC rC fl (nI 128) fS) ∧ w' 11 = some (ad 11, aB g 192 rw') ∧ w' 13 = some (ad 13, aI g 8 st') ∧ w' 14 = some (ad 14, aI g 8 nw') ∧ w' 15 = some (ad 15, aI g 64 wd')) ∧ ∀ t, t ≠ 0 → (t < 11 ∨ 16 ≤ t) → w' t = w t) 0 0) 61 [(2, .int (nI 1)), (0, .ref m0), (1, .int (nI (8 * n)))] []
      refine r_iinc (q := 64) (v := nI 0) (lv' := [(2, .int (nI 0)), (0, .ref m0), (1, .int (nI (8 * n)))]) C 0 dX8_reckon_61 rfl (by decide) (by decide) rfl rfl ?_
      refine r_goto (tgt := 38) C dX8_reckon_64 (by decide) ?_
      refine r_iload_n (q := 39) C 0 dX8_reckon_38 rfl rfl ?_
      refine r_if_lt_f (q := 42) (tgt := 67) C dX8_reckon_39 (by decide) rfl (by decide) ?_
      refine r_aload_n (q := 43) C 1 dX8_reckon_42 rfl rfl ?_
      refine r_iload_n (q := 44) C 0 dX8_reckon_43 rfl rfl ?_
      refine r_iconst (q := 45) C (nI 3) dX8_reckon_44 (by decide) rfl ?_
      refine r_icmp_le_t (tgt := 52) C dX8_reckon_45 (by decide) ((nI_leI (a := 0) (b := 3) (by omega) (by omega)).mpr (by omega)) ?_
      refine r_iload_n (q := 53) C 2 dX8_reckon_52 rfl rfl ?_
      refine r_bipush (q := 55) C (nI 8) dX8_reckon_53 (by decide) rfl ?_
      refine r_iload_n (q := 56) C 0 dX8_reckon_55 rfl rfl ?_
      refine r_imul (q := 57) C dX8_reckon_56 rfl ?_
      refine r_ti (show ((nI 8) * (nI 0) : Int32) = nI (8 * 0) from pk_mul 8 0) ?_
      refine r_ishr (q := 58) C dX8_reckon_57 rfl ?_
      refine r_ti (show ((nI (8 * n)) >>> ((nI (8 * 0)) &&& 31) : Int32) = nI (8 * n / 2 ^ 0) from nI_shr (by omega) (by decide)) ?_
      refine r_callV (q := 61) (t := 0) (As := [.int (nI (8 * n / 2 ^ 0))]) (st := []) C koX8 e260 (m_lay e260 e261 (by omega)) q828 q825 q827 qp22 q9 rfl ⟨by decide, by decide⟩ (show (parseMethodDescriptor yX8_lay.desc).map (fun d => d.parameters.length) = some 1 by decide +kernel) (by decide) (by decide) (by decide) (by decide) (Nat.le_of_ble_eq_true rfl) rfl dX8_reckon_58 rfl ?_
      rintro v9 w31 ⟨rfl, e290, e291, e29f⟩
      show V g k 3 w31 0 0 (kQ g k (fun v w' => v = none ∧ (∃ rs' : Nat → Int32, w' 12 = some (ad 12, aB g 32 rs') ∧ ∀ j, j < 32 → rs' j = dig9 (sum9 n f9) j) ∧ (∃ rw' st' nw' wd' : Nat → Int32, w' 0 = some (m0, mo ad tC tk nu gC rC fl (nI 128) fS) ∧ w' 11 = some (ad 11, aB g 192 rw') ∧ w' 13 = some (ad 13, aI g 8 st') ∧ w' 14 = some (ad 14, aI g 8 nw') ∧ w' 15 = some (ad 15, aI g 64 wd')) ∧ ∀ t, t ≠ 0 → (t < 11 ∨ 16 ≤ t) → w' t = w t) 0 0) 61 [(2, .int (nI 0)), (0, .ref m0), (1, .int (nI (8 * n)))] []
      refine r_iinc (q := 64) (v := (-1)) (lv' := [(2, .int (-1)), (0, .ref m0), (1, .int (nI (8 * n)))]) C 0 dX8_reckon_61 rfl (by decide) (by decide) rfl rfl ?_
      refine r_goto (tgt := 38) C dX8_reckon_64 (by decide) ?_
      refine r_iload_n (q := 39) C 0 dX8_reckon_38 rfl rfl ?_
      refine r_if_lt_t (tgt := 67) C dX8_reckon_39 (by decide) (by decide) ?_
      refine r_iconst (q := 68) C (nI 0) dX8_reckon_67 (by decide) rfl ?_
      refine r_istore_n (q := 69) (lv' := [(2, .int (nI 0)), (0, .ref m0), (1, .int (nI (8 * n)))]) C dX8_reckon_68 (by decide) rfl rfl ?_
      refine r_sub (lv' := [(2, .int (nI 0)), (0, .ref m0), (1, .int (nI (8 * n)))]) [0, 1, 2] rfl ?_
      exact partC w31 _ e290 e291 (fin_msg hn hn2 hA hB hC rfl rfl rfl rfl (by rw [Nat.div_eq_of_lt (Nat.lt_of_lt_of_le (show 8 * n < 960 by omega) (by decide))]) (by rw [Nat.div_eq_of_lt (Nat.lt_of_lt_of_le (show 8 * n < 960 by omega) (by decide))])) (fun t a b => (e29f t a b).trans ((e26f t a b).trans ((e23f t a b).trans ((e20f t a b).trans ((e17f t a b).trans ((e14f t a b).trans ((e11f t a b).trans ((e8f t a b).trans (gf t a b)))))))))
    | succ r ih =>
      intro c rw1 w1 hi g0 g11 hc1 hA hB hC gf
      refine r_aload_n (q := 16) C 0 dX8_reckon_15 rfl rfl ?_
      refine r_get (q := 19) (t := 0) C koX8 g0 17 (by decide) q717 rfl rfl dX8_reckon_16 rfl ?_
      refine r_bipush (q := 21) C (nI 64) dX8_reckon_19 (by decide) rfl ?_
      refine r_irem (q := 22) C dX8_reckon_21 (by decide) rfl ?_
      refine r_ti (show ((nI c) - (nI c) / (nI 64) * (nI 64) : Int32) = nI (c % 64) from pk_rem (by omega) (by omega) (by omega)) ?_
      refine r_bipush (q := 24) C (nI 56) dX8_reckon_22 (by decide) rfl ?_
      refine r_icmp_eq_f (q := 27) (tgt := 35) C dX8_reckon_24 (by decide) rfl (fun z => absurd ((nI_eq (a := (c % 64)) (b := 56) (by omega) (by omega)).mp z) (by omega)) ?_
      refine r_aload_n (q := 28) C 0 dX8_reckon_27 rfl rfl ?_
      refine r_iconst (q := 29) C (nI 0) dX8_reckon_28 (by decide) rfl ?_
      refine r_callV (q := 32) (t := 0) (As := [.int (nI 0)]) (st := []) C koX8 g0 (m_lay g0 g11 (by omega)) q828 q825 q827 qp22 q9 rfl ⟨by decide, by decide⟩ (show (parseMethodDescriptor yX8_lay.desc).map (fun d => d.parameters.length) = some 1 by decide +kernel) (by decide) (by decide) (by decide) (by decide) (Nat.le_of_ble_eq_true rfl) rfl dX8_reckon_29 rfl ?_
      rintro v9 w35 ⟨rfl, e330, e331, e33f⟩
      show V g k 3 w35 0 0 (kQ g k (fun v w' => v = none ∧ (∃ rs' : Nat → Int32, w' 12 = some (ad 12, aB g 32 rs') ∧ ∀ j, j < 32 → rs' j = dig9 (sum9 n f9) j) ∧ (∃ rw' st' nw' wd' : Nat → Int32, w' 0 = some (m0, mo ad tC tk nu gC rC fl (nI 128) fS) ∧ w' 11 = some (ad 11, aB g 192 rw') ∧ w' 13 = some (ad 13, aI g 8 st') ∧ w' 14 = some (ad 14, aI g 8 nw') ∧ w' 15 = some (ad 15, aI g 64 wd')) ∧ ∀ t, t ≠ 0 → (t < 11 ∨ 16 ≤ t) → w' t = w t) 0 0) 32 [(0, .ref m0), (1, .int (nI (8 * n)))] []
      refine r_goto (tgt := 15) C dX8_reckon_32 (by decide) ?_
      refine r_sub (lv' := [(0, .ref m0), (1, .int (nI (8 * n)))]) [0, 1] rfl ?_
      refine ih (c + 1) _ _ (by omega) e330 e331 (by omega) (fun j hj => by rw [pk_un (by omega)]; exact hA j hj) (by rw [pk_un (by omega)]; exact hB) (fun j h1 h2 => ?_) (fun t a b => (e33f t a b).trans (gf t a b))
      by_cases z : j = c
      · subst z; exact pk_us
      · rw [pk_un z]; exact hC j h1 (by omega)
  exact loopA (119 - n) (n + 1) _ w7 (by omega) e50 e51 (by omega) (fun j hj => by rw [pk_un (by omega)]; exact hm j hj) pk_us (fun j h1 h2 => absurd h1 (by omega)) e5f
