/-! the reference: correct -/
theorem m_cb_ok {l : Launch} {g : cx_G} {w : wd_T} {x : Int32} {v : Int64} (h : ok9 x v) : Mt l g yX8_canBe cX8_canBe 3 (some .boolean) 1 0 0 w [.int x, .long v] (fun v9 w' => v9 = some (.int (nI 1)) ∧ w = w') := by
  obtain ⟨f, n, rfl, hf, hn, rfl⟩ := h
  exact m_cb_y hf hn
set_option maxHeartbeats 4000000 in
set_option maxRecDepth 20000 in
theorem y_cr_n {l : Launch} {g : cx_G} {w : wd_T} {c m0 tk gN rN tN : Nat} {fl : Int32} {fn wn : Nat → Nat} {gp by9 rD tD tV tT : Nat → Int32} (hM : MdAt g w m0 fl tk gN rN tN fn wn gp by9 rD tD tV tT) (hI : Iv9 c tk gN rN tN fn wn by9 tD tV tT) {x : Int32} (hx : x < 0 ∨ nI tk ≤ x) {y ps : Int32} {z : Int64} : Mt l g yX8_correct cX8_correct 11 (some .int) 5 0 0 w [.ref m0, .int x, .int y, .long z, .int ps] (fun v w' => v = some (.int (-1)) ∧ MdAt g w' m0 (nI 0) tk gN rN tN fn wn gp by9 rD tD tV tT ∧ Fm w w') := by
  refine mt_of RX8 "correct" rfl rfl (by decide) (Nat.le_of_ble_eq_true rfl) [(0, .ref m0), (1, .int x), (2, .int y), (3, .long z), (5, .int ps)] rfl ?_
  intro k hkl C hin
  subst hkl
  obtain ⟨ad, rS, fS, lv, fo, h0, hks, h3, h4, h5, h6, h7, h8, h9, h10, hsc, h16, h17⟩ := id hM
  obtain ⟨i0, i1, i2, i3, i4, i5, i6, i7, i8, i9, i10⟩ := id hI
  refine r_aload_n (q := 1) C 0 dX8_correct_0 rfl rfl ?_
  refine r_iload_n (q := 2) C 1 dX8_correct_1 rfl rfl ?_
  refine r_callV (q := 5) (t := 0) (As := [.int x]) (st := []) C koX8 h0 (m_ist_n h0 (by omega) hx) q847 q844 q846 qp25 q9 rfl ⟨by decide, by decide⟩ (show (parseMethodDescriptor yX8_isTicket.desc).map (fun d => d.parameters.length) = some 1 by decide +kernel) (by decide) (by decide) (by decide) (by decide) (Nat.le_of_ble_eq_true rfl) rfl dX8_correct_2 rfl ?_
  rintro v9 w2 ⟨rfl, e0, ef1⟩
  show V g k 11 w2 0 0 (kQ g k (fun v w' => v = some (.int (-1)) ∧ MdAt g w' m0 (nI 0) tk gN rN tN fn wn gp by9 rD tD tV tT ∧ Fm w w') 0 0) 5 [(0, .ref m0), (1, .int x), (2, .int y), (3, .long z), (5, .int ps)] [.int (nI 0)]
  refine r_if_eq_t (tgt := 45) C dX8_correct_5 (by decide) (by decide) ?_
  refine r_iconst (q := 46) C ((-1)) dX8_correct_45 (by decide) rfl ?_
  exact r_iret C rfl (by decide) (by decide) dX8_correct_46 ⟨rfl, ⟨ad, _, _, _, _, e0, hks.kept (fun t _ _ => ef1 t (by omega)), ((ef1 3 (by omega)).trans h3), ((ef1 4 (by omega)).trans h4), ((ef1 5 (by omega)).trans h5), ((ef1 6 (by omega)).trans h6), ((ef1 7 (by omega)).trans h7), ((ef1 8 (by omega)).trans h8), ((ef1 9 (by omega)).trans h9), ((ef1 10 (by omega)).trans h10), hsc.kept (fun t _ _ => ef1 t (by omega)), ((ef1 16 (by omega)).trans h16), ((ef1 17 (by omega)).trans h17)⟩, fun t ht => ef1 t (by omega)⟩

set_option maxHeartbeats 4000000 in
set_option maxRecDepth 20000 in
theorem y_cr_b {l : Launch} {g : cx_G} {w : wd_T} {c m0 tk gN rN tN : Nat} {fl : Int32} {fn wn : Nat → Nat} {gp by9 rD tD tV tT : Nat → Int32} (hM : MdAt g w m0 fl tk gN rN tN fn wn gp by9 rD tD tV tT) (hI : Iv9 c tk gN rN tN fn wn by9 tD tV tT) {k9 : Nat} (hk9 : k9 < tk) {y ps : Int32} {z : Int64} (hb : ¬ (ok9 y z ∧ ok9 (nI 7) ps.toInt64)) : Mt l g yX8_correct cX8_correct 11 (some .int) 5 0 0 w [.ref m0, .int (nI k9), .int y, .long z, .int ps] (fun v w' => v = some (.int (-1)) ∧ MdAt g w' m0 (nI 0) tk gN rN tN fn wn gp by9 rD tD tV tT ∧ Fm w w') := by
  refine mt_of RX8 "correct" rfl rfl (by decide) (Nat.le_of_ble_eq_true rfl) [(0, .ref m0), (1, .int (nI k9)), (2, .int y), (3, .long z), (5, .int ps)] rfl ?_
  intro k hkl C hin
  subst hkl
  obtain ⟨ad, rS, fS, lv, fo, h0, hks, h3, h4, h5, h6, h7, h8, h9, h10, hsc, h16, h17⟩ := id hM
  obtain ⟨i0, i1, i2, i3, i4, i5, i6, i7, i8, i9, i10⟩ := id hI
  refine r_aload_n (q := 1) C 0 dX8_correct_0 rfl rfl ?_
  refine r_iload_n (q := 2) C 1 dX8_correct_1 rfl rfl ?_
  refine r_callV (q := 5) (t := 0) (As := [.int (nI k9)]) (st := []) C koX8 h0 (m_ist_y h0 (by omega) hk9) q847 q844 q846 qp25 q9 rfl ⟨by decide, by decide⟩ (show (parseMethodDescriptor yX8_isTicket.desc).map (fun d => d.parameters.length) = some 1 by decide +kernel) (by decide) (by decide) (by decide) (by decide) (Nat.le_of_ble_eq_true rfl) rfl dX8_correct_2 rfl ?_
  rintro v9 w2 ⟨rfl, e0, ef1⟩
  show V g k 11 w2 0 0 (kQ g k (fun v w' => v = some (.int (-1)) ∧ MdAt g w' m0 (nI 0) tk gN rN tN fn wn gp by9 rD tD tV tT ∧ Fm w w') 0 0) 5 [(0, .ref m0), (1, .int (nI k9)), (2, .int y), (3, .long z), (5, .int ps)] [.int (nI 1)]
  refine r_if_eq_f (q := 8) (tgt := 45) C dX8_correct_5 (by decide) rfl (by decide) ?_
  refine r_iload_n (q := 9) C 2 dX8_correct_8 rfl rfl ?_
  refine r_lload_n (q := 10) C 3 dX8_correct_9 rfl rfl ?_
  by_cases uu1 : ok9 y z
  · refine r_callS (q := 13) (As := [.int y, .long z]) (st := []) C (m_cb_ok uu1) q796 q794 q795 q9 ⟨by decide, by decide⟩ (show (parseMethodDescriptor yX8_canBe.desc).map (fun d => d.parameters.length) = some 2 by decide +kernel) (by decide) (by decide) (by decide) (by decide) (Nat.le_of_ble_eq_true rfl) rfl dX8_correct_10 rfl ?_
    rintro v9 w4 ⟨rfl, rfl⟩
    show V g k 11 w2 0 0 (kQ g k (fun v w' => v = some (.int (-1)) ∧ MdAt g w' m0 (nI 0) tk gN rN tN fn wn gp by9 rD tD tV tT ∧ Fm w w') 0 0) 13 [(0, .ref m0), (1, .int (nI k9)), (2, .int y), (3, .long z), (5, .int ps)] [.int (nI 1)]
    refine r_if_eq_f (q := 16) (tgt := 45) C dX8_correct_13 (by decide) rfl (by decide) ?_
    refine r_bipush (q := 18) C (nI 7) dX8_correct_16 (by decide) rfl ?_
    refine r_iload (q := 20) C 4 dX8_correct_18 rfl rfl ?_
    refine r_i2l (q := 21) C dX8_correct_20 rfl ?_
    refine r_callS (q := 24) (As := [.int (nI 7), .long ps.toInt64]) (st := []) C (m_cb_n (fun q => hb ⟨uu1, q⟩)) q796 q794 q795 q9 ⟨by decide, by decide⟩ (show (parseMethodDescriptor yX8_canBe.desc).map (fun d => d.parameters.length) = some 2 by decide +kernel) (by decide) (by decide) (by decide) (by decide) (Nat.le_of_ble_eq_true rfl) rfl dX8_correct_21 rfl ?_
    rintro v9 w5 ⟨rfl, rfl⟩
    show V g k 11 w2 0 0 (kQ g k (fun v w' => v = some (.int (-1)) ∧ MdAt g w' m0 (nI 0) tk gN rN tN fn wn gp by9 rD tD tV tT ∧ Fm w w') 0 0) 24 [(0, .ref m0), (1, .int (nI k9)), (2, .int y), (3, .long z), (5, .int ps)] [.int (nI 0)]
    refine r_if_eq_t (tgt := 45) C dX8_correct_24 (by decide) (by decide) ?_
    refine r_iconst (q := 46) C ((-1)) dX8_correct_45 (by decide) rfl ?_
    exact r_iret C rfl (by decide) (by decide) dX8_correct_46 ⟨rfl, ⟨ad, _, _, _, _, e0, hks.kept (fun t _ _ => ef1 t (by omega)), ((ef1 3 (by omega)).trans h3), ((ef1 4 (by omega)).trans h4), ((ef1 5 (by omega)).trans h5), ((ef1 6 (by omega)).trans h6), ((ef1 7 (by omega)).trans h7), ((ef1 8 (by omega)).trans h8), ((ef1 9 (by omega)).trans h9), ((ef1 10 (by omega)).trans h10), hsc.kept (fun t _ _ => ef1 t (by omega)), ((ef1 16 (by omega)).trans h16), ((ef1 17 (by omega)).trans h17)⟩, fun t ht => ef1 t (by omega)⟩
  · refine r_callS (q := 13) (As := [.int y, .long z]) (st := []) C (m_cb_n uu1) q796 q794 q795 q9 ⟨by decide, by decide⟩ (show (parseMethodDescriptor yX8_canBe.desc).map (fun d => d.parameters.length) = some 2 by decide +kernel) (by decide) (by decide) (by decide) (by decide) (Nat.le_of_ble_eq_true rfl) rfl dX8_correct_10 rfl ?_
    rintro v9 w6 ⟨rfl, rfl⟩
    show V g k 11 w2 0 0 (kQ g k (fun v w' => v = some (.int (-1)) ∧ MdAt g w' m0 (nI 0) tk gN rN tN fn wn gp by9 rD tD tV tT ∧ Fm w w') 0 0) 13 [(0, .ref m0), (1, .int (nI k9)), (2, .int y), (3, .long z), (5, .int ps)] [.int (nI 0)]
    refine r_if_eq_t (tgt := 45) C dX8_correct_13 (by decide) (by decide) ?_
    refine r_iconst (q := 46) C ((-1)) dX8_correct_45 (by decide) rfl ?_
    exact r_iret C rfl (by decide) (by decide) dX8_correct_46 ⟨rfl, ⟨ad, _, _, _, _, e0, hks.kept (fun t _ _ => ef1 t (by omega)), ((ef1 3 (by omega)).trans h3), ((ef1 4 (by omega)).trans h4), ((ef1 5 (by omega)).trans h5), ((ef1 6 (by omega)).trans h6), ((ef1 7 (by omega)).trans h7), ((ef1 8 (by omega)).trans h8), ((ef1 9 (by omega)).trans h9), ((ef1 10 (by omega)).trans h10), hsc.kept (fun t _ _ => ef1 t (by omega)), ((ef1 16 (by omega)).trans h16), ((ef1 17 (by omega)).trans h17)⟩, fun t ht => ef1 t (by omega)⟩

set_option maxHeartbeats 4000000 in
set_option maxRecDepth 20000 in
theorem y_cr_v {l : Launch} {g : cx_G} {w : wd_T} {c m0 tk gN rN tN : Nat} {fl : Int32} {fn wn : Nat → Nat} {gp by9 rD tD tV tT : Nat → Int32} (hM : MdAt g w m0 fl tk gN rN tN fn wn gp by9 rD tD tV tT) (hI : Iv9 c tk gN rN tN fn wn by9 tD tV tT) {k9 : Nat} (hk9 : k9 < tk) {f n ps : Nat} (hf : cb9 f) (hn : n ≤ mx9 f) (hps : ps ≤ 999) (hz : ¬ fn (9 * k9 + 8) = 0) : Mt l g yX8_correct cX8_correct 11 (some .int) 5 0 0 w [.ref m0, .int (nI k9), .int (nI f), .long (lN n), .int (nI ps)] (fun v w' => v = some (.int (-1)) ∧ MdAt g w' m0 (nI 0) tk gN rN tN fn wn gp by9 rD tD tV tT ∧ Fm w w') := by
  refine mt_of RX8 "correct" rfl rfl (by decide) (Nat.le_of_ble_eq_true rfl) [(0, .ref m0), (1, .int (nI k9)), (2, .int (nI f)), (3, .long (lN n)), (5, .int (nI ps))] rfl ?_
  intro k hkl C hin
  subst hkl
  obtain ⟨ad, rS, fS, lv, fo, h0, hks, h3, h4, h5, h6, h7, h8, h9, h10, hsc, h16, h17⟩ := id hM
  obtain ⟨i0, i1, i2, i3, i4, i5, i6, i7, i8, i9, i10⟩ := id hI
  have b8 := i4 k9 hk9 8 (by decide)
  have m8 : fmx9 8 = 99 := rfl
  have b0 : fn (9 * k9) ≤ fmx9 0 ∨ 0 = 5 := i4 k9 hk9 0 (by decide)
  have m00 : fmx9 0 = 999 := rfl
  have b6 := i4 k9 hk9 6 (by decide)
  have m6 : fmx9 6 = 8000000000 := rfl
  have z1 := i4 k9 hk9 3 (by decide)
  have z2 := i4 k9 hk9 4 (by decide)
  have z3 : fmx9 3 = 1000000000 := rfl
  have z4 : fmx9 4 = 1000000000 := rfl
  have hm9 := mx9_le hf
  have hf9 := cb9_lt hf
  have hp7 : cb9 7 := by unfold cb9; omega
  have hp8 : ps ≤ mx9 7 := hps
  refine r_aload_n (q := 1) C 0 dX8_correct_0 rfl rfl ?_
  refine r_iload_n (q := 2) C 1 dX8_correct_1 rfl rfl ?_
  refine r_callV (q := 5) (t := 0) (As := [.int (nI k9)]) (st := []) C koX8 h0 (m_ist_y h0 (by omega) hk9) q847 q844 q846 qp25 q9 rfl ⟨by decide, by decide⟩ (show (parseMethodDescriptor yX8_isTicket.desc).map (fun d => d.parameters.length) = some 1 by decide +kernel) (by decide) (by decide) (by decide) (by decide) (Nat.le_of_ble_eq_true rfl) rfl dX8_correct_2 rfl ?_
  rintro v9 w2 ⟨rfl, e0, ef1⟩
  show V g k 11 w2 0 0 (kQ g k (fun v w' => v = some (.int (-1)) ∧ MdAt g w' m0 (nI 0) tk gN rN tN fn wn gp by9 rD tD tV tT ∧ Fm w w') 0 0) 5 [(0, .ref m0), (1, .int (nI k9)), (2, .int (nI f)), (3, .long (lN n)), (5, .int (nI ps))] [.int (nI 1)]
  refine r_if_eq_f (q := 8) (tgt := 45) C dX8_correct_5 (by decide) rfl (by decide) ?_
  refine r_iload_n (q := 9) C 2 dX8_correct_8 rfl rfl ?_
  refine r_lload_n (q := 10) C 3 dX8_correct_9 rfl rfl ?_
  refine r_callS (q := 13) (As := [.int (nI f), .long (lN n)]) (st := []) C (m_cb_y hf hn) q796 q794 q795 q9 ⟨by decide, by decide⟩ (show (parseMethodDescriptor yX8_canBe.desc).map (fun d => d.parameters.length) = some 2 by decide +kernel) (by decide) (by decide) (by decide) (by decide) (Nat.le_of_ble_eq_true rfl) rfl dX8_correct_10 rfl ?_
  rintro v9 w4 ⟨rfl, rfl⟩
  show V g k 11 w2 0 0 (kQ g k (fun v w' => v = some (.int (-1)) ∧ MdAt g w' m0 (nI 0) tk gN rN tN fn wn gp by9 rD tD tV tT ∧ Fm w w') 0 0) 13 [(0, .ref m0), (1, .int (nI k9)), (2, .int (nI f)), (3, .long (lN n)), (5, .int (nI ps))] [.int (nI 1)]
  refine r_if_eq_f (q := 16) (tgt := 45) C dX8_correct_13 (by decide) rfl (by decide) ?_
  refine r_bipush (q := 18) C (nI 7) dX8_correct_16 (by decide) rfl ?_
  refine r_iload (q := 20) C 4 dX8_correct_18 rfl rfl ?_
  refine r_i2l (q := 21) C dX8_correct_20 rfl ?_
  refine r_tl (show ((nI ps).toInt64 : Int64) = lN ps from nI_l (by omega)) ?_
  refine r_callS (q := 24) (As := [.int (nI 7), .long (lN ps)]) (st := []) C (m_cb_y (f := 7) (n := ps) hp7 hp8) q796 q794 q795 q9 ⟨by decide, by decide⟩ (show (parseMethodDescriptor yX8_canBe.desc).map (fun d => d.parameters.length) = some 2 by decide +kernel) (by decide) (by decide) (by decide) (by decide) (Nat.le_of_ble_eq_true rfl) rfl dX8_correct_21 rfl ?_
  rintro v9 w5 ⟨rfl, rfl⟩
  show V g k 11 w2 0 0 (kQ g k (fun v w' => v = some (.int (-1)) ∧ MdAt g w' m0 (nI 0) tk gN rN tN fn wn gp by9 rD tD tV tT ∧ Fm w w') 0 0) 24 [(0, .ref m0), (1, .int (nI k9)), (2, .int (nI f)), (3, .long (lN n)), (5, .int (nI ps))] [.int (nI 1)]
  refine r_if_eq_f (q := 27) (tgt := 45) C dX8_correct_24 (by decide) rfl (by decide) ?_
  refine r_aload_n (q := 28) C 0 dX8_correct_27 rfl rfl ?_
  refine r_iload_n (q := 29) C 1 dX8_correct_28 rfl rfl ?_
  refine r_callV (q := 32) (t := 0) (As := [.int (nI k9)]) (st := []) C koX8 e0 (m_isv_y e0 ((ef1 6 (by omega)).trans h6) (by omega) (by omega) hz) q851 q848 q850 qp26 q9 rfl ⟨by decide, by decide⟩ (show (parseMethodDescriptor yX8_isVoid.desc).map (fun d => d.parameters.length) = some 1 by decide +kernel) (by decide) (by decide) (by decide) (by decide) (Nat.le_of_ble_eq_true rfl) rfl dX8_correct_29 rfl ?_
  rintro v9 w6 ⟨rfl, rfl⟩
  show V g k 11 w2 0 0 (kQ g k (fun v w' => v = some (.int (-1)) ∧ MdAt g w' m0 (nI 0) tk gN rN tN fn wn gp by9 rD tD tV tT ∧ Fm w w') 0 0) 32 [(0, .ref m0), (1, .int (nI k9)), (2, .int (nI f)), (3, .long (lN n)), (5, .int (nI ps))] [.int (nI 1)]
  refine r_if_ne_t (tgt := 45) C dX8_correct_32 (by decide) (by decide) ?_
  refine r_iconst (q := 46) C ((-1)) dX8_correct_45 (by decide) rfl ?_
  exact r_iret C rfl (by decide) (by decide) dX8_correct_46 ⟨rfl, ⟨ad, _, _, _, _, e0, hks.kept (fun t _ _ => ef1 t (by omega)), ((ef1 3 (by omega)).trans h3), ((ef1 4 (by omega)).trans h4), ((ef1 5 (by omega)).trans h5), ((ef1 6 (by omega)).trans h6), ((ef1 7 (by omega)).trans h7), ((ef1 8 (by omega)).trans h8), ((ef1 9 (by omega)).trans h9), ((ef1 10 (by omega)).trans h10), hsc.kept (fun t _ _ => ef1 t (by omega)), ((ef1 16 (by omega)).trans h16), ((ef1 17 (by omega)).trans h17)⟩, fun t ht => ef1 t (by omega)⟩

set_option maxHeartbeats 4000000 in
set_option maxRecDepth 20000 in
theorem y_cr_g {l : Launch} {g : cx_G} {w : wd_T} {c m0 tk gN rN tN : Nat} {fl : Int32} {fn wn : Nat → Nat} {gp by9 rD tD tV tT : Nat → Int32} (hM : MdAt g w m0 fl tk gN rN tN fn wn gp by9 rD tD tV tT) (hI : Iv9 c tk gN rN tN fn wn by9 tD tV tT) {k9 : Nat} (hk9 : k9 < tk) {f n ps : Nat} (hf : cb9 f) (hn : n ≤ mx9 f) (hps : ps ≤ 999) (hz : fn (9 * k9 + 8) = 0) (hle : ¬ upN fn (9 * k9 + f) n (9 * k9 + 4) ≤ upN fn (9 * k9 + f) n (9 * k9 + 3)) : Mt l g yX8_correct cX8_correct 11 (some .int) 5 0 0 w [.ref m0, .int (nI k9), .int (nI f), .long (lN n), .int (nI ps)] (fun v w' => v = some (.int (-1)) ∧ MdAt g w' m0 (nI 0) tk gN rN tN fn wn gp by9 rD tD tV tT ∧ Fm w w') := by
  refine mt_of RX8 "correct" rfl rfl (by decide) (Nat.le_of_ble_eq_true rfl) [(0, .ref m0), (1, .int (nI k9)), (2, .int (nI f)), (3, .long (lN n)), (5, .int (nI ps))] rfl ?_
  intro k hkl C hin
  subst hkl
  obtain ⟨ad, rS, fS, lv, fo, h0, hks, h3, h4, h5, h6, h7, h8, h9, h10, hsc, h16, h17⟩ := id hM
  obtain ⟨i0, i1, i2, i3, i4, i5, i6, i7, i8, i9, i10⟩ := id hI
  have b8 := i4 k9 hk9 8 (by decide)
  have m8 : fmx9 8 = 99 := rfl
  have b0 : fn (9 * k9) ≤ fmx9 0 ∨ 0 = 5 := i4 k9 hk9 0 (by decide)
  have m00 : fmx9 0 = 999 := rfl
  have b6 := i4 k9 hk9 6 (by decide)
  have m6 : fmx9 6 = 8000000000 := rfl
  have z1 := i4 k9 hk9 3 (by decide)
  have z2 := i4 k9 hk9 4 (by decide)
  have z3 : fmx9 3 = 1000000000 := rfl
  have z4 : fmx9 4 = 1000000000 := rfl
  have hm9 := mx9_le hf
  have hf9 := cb9_lt hf
  have hp7 : cb9 7 := by unfold cb9; omega
  have hp8 : ps ≤ mx9 7 := hps
  refine r_aload_n (q := 1) C 0 dX8_correct_0 rfl rfl ?_
  refine r_iload_n (q := 2) C 1 dX8_correct_1 rfl rfl ?_
  refine r_callV (q := 5) (t := 0) (As := [.int (nI k9)]) (st := []) C koX8 h0 (m_ist_y h0 (by omega) hk9) q847 q844 q846 qp25 q9 rfl ⟨by decide, by decide⟩ (show (parseMethodDescriptor yX8_isTicket.desc).map (fun d => d.parameters.length) = some 1 by decide +kernel) (by decide) (by decide) (by decide) (by decide) (Nat.le_of_ble_eq_true rfl) rfl dX8_correct_2 rfl ?_
  rintro v9 w2 ⟨rfl, e0, ef1⟩
  show V g k 11 w2 0 0 (kQ g k (fun v w' => v = some (.int (-1)) ∧ MdAt g w' m0 (nI 0) tk gN rN tN fn wn gp by9 rD tD tV tT ∧ Fm w w') 0 0) 5 [(0, .ref m0), (1, .int (nI k9)), (2, .int (nI f)), (3, .long (lN n)), (5, .int (nI ps))] [.int (nI 1)]
  refine r_if_eq_f (q := 8) (tgt := 45) C dX8_correct_5 (by decide) rfl (by decide) ?_
  refine r_iload_n (q := 9) C 2 dX8_correct_8 rfl rfl ?_
  refine r_lload_n (q := 10) C 3 dX8_correct_9 rfl rfl ?_
  refine r_callS (q := 13) (As := [.int (nI f), .long (lN n)]) (st := []) C (m_cb_y hf hn) q796 q794 q795 q9 ⟨by decide, by decide⟩ (show (parseMethodDescriptor yX8_canBe.desc).map (fun d => d.parameters.length) = some 2 by decide +kernel) (by decide) (by decide) (by decide) (by decide) (Nat.le_of_ble_eq_true rfl) rfl dX8_correct_10 rfl ?_
  rintro v9 w4 ⟨rfl, rfl⟩
  show V g k 11 w2 0 0 (kQ g k (fun v w' => v = some (.int (-1)) ∧ MdAt g w' m0 (nI 0) tk gN rN tN fn wn gp by9 rD tD tV tT ∧ Fm w w') 0 0) 13 [(0, .ref m0), (1, .int (nI k9)), (2, .int (nI f)), (3, .long (lN n)), (5, .int (nI ps))] [.int (nI 1)]
  refine r_if_eq_f (q := 16) (tgt := 45) C dX8_correct_13 (by decide) rfl (by decide) ?_
  refine r_bipush (q := 18) C (nI 7) dX8_correct_16 (by decide) rfl ?_
  refine r_iload (q := 20) C 4 dX8_correct_18 rfl rfl ?_
  refine r_i2l (q := 21) C dX8_correct_20 rfl ?_
  refine r_tl (show ((nI ps).toInt64 : Int64) = lN ps from nI_l (by omega)) ?_
  refine r_callS (q := 24) (As := [.int (nI 7), .long (lN ps)]) (st := []) C (m_cb_y (f := 7) (n := ps) hp7 hp8) q796 q794 q795 q9 ⟨by decide, by decide⟩ (show (parseMethodDescriptor yX8_canBe.desc).map (fun d => d.parameters.length) = some 2 by decide +kernel) (by decide) (by decide) (by decide) (by decide) (Nat.le_of_ble_eq_true rfl) rfl dX8_correct_21 rfl ?_
  rintro v9 w5 ⟨rfl, rfl⟩
  show V g k 11 w2 0 0 (kQ g k (fun v w' => v = some (.int (-1)) ∧ MdAt g w' m0 (nI 0) tk gN rN tN fn wn gp by9 rD tD tV tT ∧ Fm w w') 0 0) 24 [(0, .ref m0), (1, .int (nI k9)), (2, .int (nI f)), (3, .long (lN n)), (5, .int (nI ps))] [.int (nI 1)]
  refine r_if_eq_f (q := 27) (tgt := 45) C dX8_correct_24 (by decide) rfl (by decide) ?_
  refine r_aload_n (q := 28) C 0 dX8_correct_27 rfl rfl ?_
  refine r_iload_n (q := 29) C 1 dX8_correct_28 rfl rfl ?_
  refine r_callV (q := 32) (t := 0) (As := [.int (nI k9)]) (st := []) C koX8 e0 (m_isv_n e0 ((ef1 6 (by omega)).trans h6) (by omega) (by omega) hz) q851 q848 q850 qp26 q9 rfl ⟨by decide, by decide⟩ (show (parseMethodDescriptor yX8_isVoid.desc).map (fun d => d.parameters.length) = some 1 by decide +kernel) (by decide) (by decide) (by decide) (by decide) (Nat.le_of_ble_eq_true rfl) rfl dX8_correct_29 rfl ?_
  rintro v9 w6 ⟨rfl, rfl⟩
  show V g k 11 w2 0 0 (kQ g k (fun v w' => v = some (.int (-1)) ∧ MdAt g w' m0 (nI 0) tk gN rN tN fn wn gp by9 rD tD tV tT ∧ Fm w w') 0 0) 32 [(0, .ref m0), (1, .int (nI k9)), (2, .int (nI f)), (3, .long (lN n)), (5, .int (nI ps))] [.int (nI 0)]
  have u3 : upN fn (9 * k9 + f) n (9 * k9 + 3) ≤ 8000000000 := by unfold upN; split <;> omega
  have u4 : upN fn (9 * k9 + f) n (9 * k9 + 4) ≤ 8000000000 := by unfold upN; split <;> omega
  have u6 : upN fn (9 * k9 + f) n (9 * k9 + 6) ≤ 8000000000 := by unfold upN; split <;> omega
  have u0 : upN fn (9 * k9 + f) n (9 * k9) = fn (9 * k9) := upN_ne (by omega)
  refine r_if_ne_f (q := 35) (tgt := 45) C dX8_correct_32 (by decide) rfl (by decide) ?_
  refine r_aload_n (q := 36) C 0 dX8_correct_35 rfl rfl ?_
  refine r_get (q := 39) (t := 0) C koX8 e0 14 (by decide) q714 rfl rfl dX8_correct_36 rfl ?_
  refine r_sipush (q := 42) C (nI 200) dX8_correct_39 (by decide) rfl ?_
  refine r_icmp_ne_t (tgt := 47) C dX8_correct_42 (by decide) (fun z => absurd ((nI_eq (a := rN) (b := 200) (by omega) (by omega)).mp z) (by omega)) ?_
  have fin9 : V g k 11 w2 0 0 (kQ g k (fun v w' => v = some (.int (-1)) ∧ MdAt g w' m0 (nI 0) tk gN rN tN fn wn gp by9 rD tD tV tT ∧ Fm w w') 0 0) 91 [(8, .long (lN (upN fn (9 * k9 + f) n (9 * k9 + 4)))), (6, .long (lN (upN fn (9 * k9 + f) n (9 * k9 + 3)))), (0, .ref m0), (1, .int (nI k9)), (2, .int (nI f)), (3, .long (lN n)), (5, .int (nI ps))] [] := by
    refine r_lload (q := 93) C 1 dX8_correct_91 rfl rfl ?_
    refine r_lload (q := 95) C 0 dX8_correct_93 rfl rfl ?_
    refine r_lcmp_ge (q := 96) (q2 := 99) (tgt := 101) C dX8_correct_95 rfl dX8_correct_96 (by decide) rfl (fun hz7 => absurd (fun z => absurd ((pk_lLE (a := (upN fn (9 * k9 + f) n (9 * k9 + 4))) (b := (upN fn (9 * k9 + f) n (9 * k9 + 3))) (by omega) (by omega)).mp z) (by omega)) (by first | exact hz7 | exact fun zz => zz hz7)) (fun _ => ?_)
    refine r_iconst (q := 100) C ((-1)) dX8_correct_99 (by decide) rfl ?_
    exact r_iret C rfl (by decide) (by decide) dX8_correct_100 ⟨rfl, ⟨ad, _, _, _, _, e0, hks.kept (fun t _ _ => ef1 t (by omega)), ((ef1 3 (by omega)).trans h3), ((ef1 4 (by omega)).trans h4), ((ef1 5 (by omega)).trans h5), ((ef1 6 (by omega)).trans h6), ((ef1 7 (by omega)).trans h7), ((ef1 8 (by omega)).trans h8), ((ef1 9 (by omega)).trans h9), ((ef1 10 (by omega)).trans h10), hsc.kept (fun t _ _ => ef1 t (by omega)), ((ef1 16 (by omega)).trans h16), ((ef1 17 (by omega)).trans h17)⟩, fun t ht => ef1 t (by omega)⟩
  refine r_iload_n (q := 48) C 2 dX8_correct_47 rfl rfl ?_
  refine r_iconst (q := 49) C (nI 3) dX8_correct_48 (by decide) rfl ?_
  refine r_icmp_ne (q := 52) (tgt := 56) C dX8_correct_49 (by decide) rfl (fun hc8 => ?_) (fun hc8 => ?_)
  · have hc8 : ¬ f = 3 := fun z => hc8 ((nI_eq (a := f) (b := 3) (by omega) (by omega)).mpr z)
    refine r_aload_n (q := 57) C 0 dX8_correct_56 rfl rfl ?_
    refine r_get (q := 60) (t := 0) C koX8 e0 6 (by decide) q706 rfl rfl dX8_correct_57 rfl ?_
    refine r_bipush (q := 62) C (nI 9) dX8_correct_60 (by decide) rfl ?_
    refine r_iload_n (q := 63) C 1 dX8_correct_62 rfl rfl ?_
    refine r_imul (q := 64) C dX8_correct_63 rfl ?_
    refine r_ti (show ((nI 9) * (nI k9) : Int32) = nI (9 * k9) from pk_mul 9 k9) ?_
    refine r_iconst (q := 65) C (nI 3) dX8_correct_64 (by decide) rfl ?_
    refine r_iadd (q := 66) C dX8_correct_65 rfl ?_
    refine r_ti (show ((nI (9 * k9)) + (nI 3) : Int32) = nI (9 * k9 + 3) from nI_add (9 * k9) 3) ?_
    refine r_lald (q := 67) (t := 6) C ((ef1 6 (by omega)).trans h6) (9 * k9 + 3) rfl (by omega) (by decide) dX8_correct_66 rfl ?_
    refine r_tl (show ((fun p => lN (fn p)) (9 * k9 + 3) : Int64) = lN (upN fn (9 * k9 + f) n (9 * k9 + 3)) from by show lN (fn (9 * k9 + 3)) = _; rw [upN_ne (by omega)]) ?_
    refine r_lstore (q := 69) (lv' := [(6, .long (lN (upN fn (9 * k9 + f) n (9 * k9 + 3)))), (0, .ref m0), (1, .int (nI k9)), (2, .int (nI f)), (3, .long (lN n)), (5, .int (nI ps))]) C dX8_correct_67 (by decide) rfl rfl ?_
    refine r_iload_n (q := 70) C 3 dX8_correct_69 rfl rfl ?_
    refine r_iconst (q := 71) C (nI 4) dX8_correct_70 (by decide) rfl ?_
    refine r_icmp_ne (q := 74) (tgt := 78) C dX8_correct_71 (by decide) rfl (fun hc10 => ?_) (fun hc10 => ?_)
    · have hc10 : ¬ f = 4 := fun z => hc10 ((nI_eq (a := f) (b := 4) (by omega) (by omega)).mpr z)
      refine r_aload_n (q := 79) C 1 dX8_correct_78 rfl rfl ?_
      refine r_get (q := 82) (t := 0) C koX8 e0 6 (by decide) q706 rfl rfl dX8_correct_79 rfl ?_
      refine r_bipush (q := 84) C (nI 9) dX8_correct_82 (by decide) rfl ?_
      refine r_iload_n (q := 85) C 2 dX8_correct_84 rfl rfl ?_
      refine r_imul (q := 86) C dX8_correct_85 rfl ?_
      refine r_ti (show ((nI 9) * (nI k9) : Int32) = nI (9 * k9) from pk_mul 9 k9) ?_
      refine r_iconst (q := 87) C (nI 4) dX8_correct_86 (by decide) rfl ?_
      refine r_iadd (q := 88) C dX8_correct_87 rfl ?_
      refine r_ti (show ((nI (9 * k9)) + (nI 4) : Int32) = nI (9 * k9 + 4) from nI_add (9 * k9) 4) ?_
      refine r_lald (q := 89) (t := 6) C ((ef1 6 (by omega)).trans h6) (9 * k9 + 4) rfl (by omega) (by decide) dX8_correct_88 rfl ?_
      refine r_tl (show ((fun p => lN (fn p)) (9 * k9 + 4) : Int64) = lN (upN fn (9 * k9 + f) n (9 * k9 + 4)) from by show lN (fn (9 * k9 + 4)) = _; rw [upN_ne (by omega)]) ?_
      refine r_lstore (q := 91) (lv' := [(8, .long (lN (upN fn (9 * k9 + f) n (9 * k9 + 4)))), (6, .long (lN (upN fn (9 * k9 + f) n (9 * k9 + 3)))), (0, .ref m0), (1, .int (nI k9)), (2, .int (nI f)), (3, .long (lN n)), (5, .int (nI ps))]) C dX8_correct_89 (by decide) rfl rfl ?_
      refine r_sub (lv' := [(8, .long (lN (upN fn (9 * k9 + f) n (9 * k9 + 4)))), (6, .long (lN (upN fn (9 * k9 + f) n (9 * k9 + 3)))), (0, .ref m0), (1, .int (nI k9)), (2, .int (nI f)), (3, .long (lN n)), (5, .int (nI ps))]) [0, 1, 2, 3, 4, 5, 6] rfl ?_
      exact fin9
    · have hc10 : f = 4 := (nI_eq (a := f) (b := 4) (by omega) (by omega)).mp hc10
      refine r_lload_n (q := 75) C 4 dX8_correct_74 rfl rfl ?_
      refine r_goto (tgt := 89) C dX8_correct_75 (by decide) ?_
      refine r_tl (show (lN n : Int64) = lN (upN fn (9 * k9 + f) n (9 * k9 + 4)) from by rw [hc10, upN_eq]) ?_
      refine r_lstore (q := 91) (lv' := [(8, .long (lN (upN fn (9 * k9 + f) n (9 * k9 + 4)))), (6, .long (lN (upN fn (9 * k9 + f) n (9 * k9 + 3)))), (0, .ref m0), (1, .int (nI k9)), (2, .int (nI f)), (3, .long (lN n)), (5, .int (nI ps))]) C dX8_correct_89 (by decide) rfl rfl ?_
      refine r_sub (lv' := [(8, .long (lN (upN fn (9 * k9 + f) n (9 * k9 + 4)))), (6, .long (lN (upN fn (9 * k9 + f) n (9 * k9 + 3)))), (0, .ref m0), (1, .int (nI k9)), (2, .int (nI f)), (3, .long (lN n)), (5, .int (nI ps))]) [0, 1, 2, 3, 4, 5, 6] rfl ?_
      exact fin9
  · have hc8 : f = 3 := (nI_eq (a := f) (b := 3) (by omega) (by omega)).mp hc8
    refine r_lload_n (q := 53) C 3 dX8_correct_52 rfl rfl ?_
    refine r_goto (tgt := 67) C dX8_correct_53 (by decide) ?_
    refine r_tl (show (lN n : Int64) = lN (upN fn (9 * k9 + f) n (9 * k9 + 3)) from by rw [hc8, upN_eq]) ?_
    refine r_lstore (q := 69) (lv' := [(6, .long (lN (upN fn (9 * k9 + f) n (9 * k9 + 3)))), (0, .ref m0), (1, .int (nI k9)), (2, .int (nI f)), (3, .long (lN n)), (5, .int (nI ps))]) C dX8_correct_67 (by decide) rfl rfl ?_
    refine r_iload_n (q := 70) C 3 dX8_correct_69 rfl rfl ?_
    refine r_iconst (q := 71) C (nI 4) dX8_correct_70 (by decide) rfl ?_
    refine r_icmp_ne (q := 74) (tgt := 78) C dX8_correct_71 (by decide) rfl (fun hc14 => ?_) (fun hc14 => ?_)
    · have hc14 : ¬ f = 4 := fun z => hc14 ((nI_eq (a := f) (b := 4) (by omega) (by omega)).mpr z)
      refine r_aload_n (q := 79) C 1 dX8_correct_78 rfl rfl ?_
      refine r_get (q := 82) (t := 0) C koX8 e0 6 (by decide) q706 rfl rfl dX8_correct_79 rfl ?_
      refine r_bipush (q := 84) C (nI 9) dX8_correct_82 (by decide) rfl ?_
      refine r_iload_n (q := 85) C 2 dX8_correct_84 rfl rfl ?_
      refine r_imul (q := 86) C dX8_correct_85 rfl ?_
      refine r_ti (show ((nI 9) * (nI k9) : Int32) = nI (9 * k9) from pk_mul 9 k9) ?_
      refine r_iconst (q := 87) C (nI 4) dX8_correct_86 (by decide) rfl ?_
      refine r_iadd (q := 88) C dX8_correct_87 rfl ?_
      refine r_ti (show ((nI (9 * k9)) + (nI 4) : Int32) = nI (9 * k9 + 4) from nI_add (9 * k9) 4) ?_
      refine r_lald (q := 89) (t := 6) C ((ef1 6 (by omega)).trans h6) (9 * k9 + 4) rfl (by omega) (by decide) dX8_correct_88 rfl ?_
      refine r_tl (show ((fun p => lN (fn p)) (9 * k9 + 4) : Int64) = lN (upN fn (9 * k9 + f) n (9 * k9 + 4)) from by show lN (fn (9 * k9 + 4)) = _; rw [upN_ne (by omega)]) ?_
      refine r_lstore (q := 91) (lv' := [(8, .long (lN (upN fn (9 * k9 + f) n (9 * k9 + 4)))), (6, .long (lN (upN fn (9 * k9 + f) n (9 * k9 + 3)))), (0, .ref m0), (1, .int (nI k9)), (2, .int (nI f)), (3, .long (lN n)), (5, .int (nI ps))]) C dX8_correct_89 (by decide) rfl rfl ?_
      refine r_sub (lv' := [(8, .long (lN (upN fn (9 * k9 + f) n (9 * k9 + 4)))), (6, .long (lN (upN fn (9 * k9 + f) n (9 * k9 + 3)))), (0, .ref m0), (1, .int (nI k9)), (2, .int (nI f)), (3, .long (lN n)), (5, .int (nI ps))]) [0, 1, 2, 3, 4, 5, 6] rfl ?_
      exact fin9
    · have hc14 : f = 4 := (nI_eq (a := f) (b := 4) (by omega) (by omega)).mp hc14
      refine r_lload_n (q := 75) C 4 dX8_correct_74 rfl rfl ?_
      refine r_goto (tgt := 89) C dX8_correct_75 (by decide) ?_
      refine r_tl (show (lN n : Int64) = lN (upN fn (9 * k9 + f) n (9 * k9 + 4)) from by rw [hc14, upN_eq]) ?_
      refine r_lstore (q := 91) (lv' := [(8, .long (lN (upN fn (9 * k9 + f) n (9 * k9 + 4)))), (6, .long (lN (upN fn (9 * k9 + f) n (9 * k9 + 3)))), (0, .ref m0), (1, .int (nI k9)), (2, .int (nI f)), (3, .long (lN n)), (5, .int (nI ps))]) C dX8_correct_89 (by decide) rfl rfl ?_
      refine r_sub (lv' := [(8, .long (lN (upN fn (9 * k9 + f) n (9 * k9 + 4)))), (6, .long (lN (upN fn (9 * k9 + f) n (9 * k9 + 3)))), (0, .ref m0), (1, .int (nI k9)), (2, .int (nI f)), (3, .long (lN n)), (5, .int (nI ps))]) [0, 1, 2, 3, 4, 5, 6] rfl ?_
      exact fin9

set_option maxHeartbeats 4000000 in
set_option maxRecDepth 20000 in
theorem y_cr_y {l : Launch} {g : cx_G} {w : wd_T} {c m0 tk gN rN tN : Nat} {fl : Int32} {fn wn : Nat → Nat} {gp by9 rD tD tV tT : Nat → Int32} (hM : MdAt g w m0 fl tk gN rN tN fn wn gp by9 rD tD tV tT) (hI : Iv9 c tk gN rN tN fn wn by9 tD tV tT) {k9 : Nat} (hk9 : k9 < tk) {f n ps : Nat} (hf : cb9 f) (hn : n ≤ mx9 f) (hps : ps ≤ 999) (hz : fn (9 * k9 + 8) = 0) (hle : upN fn (9 * k9 + f) n (9 * k9 + 4) ≤ upN fn (9 * k9 + f) n (9 * k9 + 3)) : Mt l g yX8_correct cX8_correct 11 (some .int) 5 0 0 w [.ref m0, .int (nI k9), .int (nI f), .long (lN n), .int (nI ps)] (fun v w' => v = some (.int (nI rN)) ∧ MdAt g w' m0 (nI 0) tk gN (rN + 1) tN (upN fn (9 * k9 + f) n) wn gp (apR by9 rN (crB (fn (9 * k9)) f n ps)) (upd rD rN (nI (upN fn (9 * k9 + f) n (9 * k9 + 6) / 86400))) tD tV tT ∧ Fm w w') := by
  refine mt_of RX8 "correct" rfl rfl (by decide) (Nat.le_of_ble_eq_true rfl) [(0, .ref m0), (1, .int (nI k9)), (2, .int (nI f)), (3, .long (lN n)), (5, .int (nI ps))] rfl ?_
  intro k hkl C hin
  subst hkl
  obtain ⟨ad, rS, fS, lv, fo, h0, hks, h3, h4, h5, h6, h7, h8, h9, h10, hsc, h16, h17⟩ := id hM
  obtain ⟨i0, i1, i2, i3, i4, i5, i6, i7, i8, i9, i10⟩ := id hI
  have b8 := i4 k9 hk9 8 (by decide)
  have m8 : fmx9 8 = 99 := rfl
  have b0 : fn (9 * k9) ≤ fmx9 0 ∨ 0 = 5 := i4 k9 hk9 0 (by decide)
  have m00 : fmx9 0 = 999 := rfl
  have b6 := i4 k9 hk9 6 (by decide)
  have m6 : fmx9 6 = 8000000000 := rfl
  have z1 := i4 k9 hk9 3 (by decide)
  have z2 := i4 k9 hk9 4 (by decide)
  have z3 : fmx9 3 = 1000000000 := rfl
  have z4 : fmx9 4 = 1000000000 := rfl
  have hm9 := mx9_le hf
  have hf9 := cb9_lt hf
  have hp7 : cb9 7 := by unfold cb9; omega
  have hp8 : ps ≤ mx9 7 := hps
  refine r_aload_n (q := 1) C 0 dX8_correct_0 rfl rfl ?_
  refine r_iload_n (q := 2) C 1 dX8_correct_1 rfl rfl ?_
  refine r_callV (q := 5) (t := 0) (As := [.int (nI k9)]) (st := []) C koX8 h0 (m_ist_y h0 (by omega) hk9) q847 q844 q846 qp25 q9 rfl ⟨by decide, by decide⟩ (show (parseMethodDescriptor yX8_isTicket.desc).map (fun d => d.parameters.length) = some 1 by decide +kernel) (by decide) (by decide) (by decide) (by decide) (Nat.le_of_ble_eq_true rfl) rfl dX8_correct_2 rfl ?_
  rintro v9 w2 ⟨rfl, e0, ef1⟩
  show V g k 11 w2 0 0 (kQ g k (fun v w' => v = some (.int (nI rN)) ∧ MdAt g w' m0 (nI 0) tk gN (rN + 1) tN (upN fn (9 * k9 + f) n) wn gp (apR by9 rN (crB (fn (9 * k9)) f n ps)) (upd rD rN (nI (upN fn (9 * k9 + f) n (9 * k9 + 6) / 86400))) tD tV tT ∧ Fm w w') 0 0) 5 [(0, .ref m0), (1, .int (nI k9)), (2, .int (nI f)), (3, .long (lN n)), (5, .int (nI ps))] [.int (nI 1)]
  refine r_if_eq_f (q := 8) (tgt := 45) C dX8_correct_5 (by decide) rfl (by decide) ?_
  refine r_iload_n (q := 9) C 2 dX8_correct_8 rfl rfl ?_
  refine r_lload_n (q := 10) C 3 dX8_correct_9 rfl rfl ?_
  refine r_callS (q := 13) (As := [.int (nI f), .long (lN n)]) (st := []) C (m_cb_y hf hn) q796 q794 q795 q9 ⟨by decide, by decide⟩ (show (parseMethodDescriptor yX8_canBe.desc).map (fun d => d.parameters.length) = some 2 by decide +kernel) (by decide) (by decide) (by decide) (by decide) (Nat.le_of_ble_eq_true rfl) rfl dX8_correct_10 rfl ?_
  rintro v9 w4 ⟨rfl, rfl⟩
  show V g k 11 w2 0 0 (kQ g k (fun v w' => v = some (.int (nI rN)) ∧ MdAt g w' m0 (nI 0) tk gN (rN + 1) tN (upN fn (9 * k9 + f) n) wn gp (apR by9 rN (crB (fn (9 * k9)) f n ps)) (upd rD rN (nI (upN fn (9 * k9 + f) n (9 * k9 + 6) / 86400))) tD tV tT ∧ Fm w w') 0 0) 13 [(0, .ref m0), (1, .int (nI k9)), (2, .int (nI f)), (3, .long (lN n)), (5, .int (nI ps))] [.int (nI 1)]
  refine r_if_eq_f (q := 16) (tgt := 45) C dX8_correct_13 (by decide) rfl (by decide) ?_
  refine r_bipush (q := 18) C (nI 7) dX8_correct_16 (by decide) rfl ?_
  refine r_iload (q := 20) C 4 dX8_correct_18 rfl rfl ?_
  refine r_i2l (q := 21) C dX8_correct_20 rfl ?_
  refine r_tl (show ((nI ps).toInt64 : Int64) = lN ps from nI_l (by omega)) ?_
  refine r_callS (q := 24) (As := [.int (nI 7), .long (lN ps)]) (st := []) C (m_cb_y (f := 7) (n := ps) hp7 hp8) q796 q794 q795 q9 ⟨by decide, by decide⟩ (show (parseMethodDescriptor yX8_canBe.desc).map (fun d => d.parameters.length) = some 2 by decide +kernel) (by decide) (by decide) (by decide) (by decide) (Nat.le_of_ble_eq_true rfl) rfl dX8_correct_21 rfl ?_
  rintro v9 w5 ⟨rfl, rfl⟩
  show V g k 11 w2 0 0 (kQ g k (fun v w' => v = some (.int (nI rN)) ∧ MdAt g w' m0 (nI 0) tk gN (rN + 1) tN (upN fn (9 * k9 + f) n) wn gp (apR by9 rN (crB (fn (9 * k9)) f n ps)) (upd rD rN (nI (upN fn (9 * k9 + f) n (9 * k9 + 6) / 86400))) tD tV tT ∧ Fm w w') 0 0) 24 [(0, .ref m0), (1, .int (nI k9)), (2, .int (nI f)), (3, .long (lN n)), (5, .int (nI ps))] [.int (nI 1)]
  refine r_if_eq_f (q := 27) (tgt := 45) C dX8_correct_24 (by decide) rfl (by decide) ?_
  refine r_aload_n (q := 28) C 0 dX8_correct_27 rfl rfl ?_
  refine r_iload_n (q := 29) C 1 dX8_correct_28 rfl rfl ?_
  refine r_callV (q := 32) (t := 0) (As := [.int (nI k9)]) (st := []) C koX8 e0 (m_isv_n e0 ((ef1 6 (by omega)).trans h6) (by omega) (by omega) hz) q851 q848 q850 qp26 q9 rfl ⟨by decide, by decide⟩ (show (parseMethodDescriptor yX8_isVoid.desc).map (fun d => d.parameters.length) = some 1 by decide +kernel) (by decide) (by decide) (by decide) (by decide) (Nat.le_of_ble_eq_true rfl) rfl dX8_correct_29 rfl ?_
  rintro v9 w6 ⟨rfl, rfl⟩
  show V g k 11 w2 0 0 (kQ g k (fun v w' => v = some (.int (nI rN)) ∧ MdAt g w' m0 (nI 0) tk gN (rN + 1) tN (upN fn (9 * k9 + f) n) wn gp (apR by9 rN (crB (fn (9 * k9)) f n ps)) (upd rD rN (nI (upN fn (9 * k9 + f) n (9 * k9 + 6) / 86400))) tD tV tT ∧ Fm w w') 0 0) 32 [(0, .ref m0), (1, .int (nI k9)), (2, .int (nI f)), (3, .long (lN n)), (5, .int (nI ps))] [.int (nI 0)]
  have u3 : upN fn (9 * k9 + f) n (9 * k9 + 3) ≤ 8000000000 := by unfold upN; split <;> omega
  have u4 : upN fn (9 * k9 + f) n (9 * k9 + 4) ≤ 8000000000 := by unfold upN; split <;> omega
  have u6 : upN fn (9 * k9 + f) n (9 * k9 + 6) ≤ 8000000000 := by unfold upN; split <;> omega
  have u0 : upN fn (9 * k9 + f) n (9 * k9) = fn (9 * k9) := upN_ne (by omega)
  refine r_if_ne_f (q := 35) (tgt := 45) C dX8_correct_32 (by decide) rfl (by decide) ?_
  refine r_aload_n (q := 36) C 0 dX8_correct_35 rfl rfl ?_
  refine r_get (q := 39) (t := 0) C koX8 e0 14 (by decide) q714 rfl rfl dX8_correct_36 rfl ?_
  refine r_sipush (q := 42) C (nI 200) dX8_correct_39 (by decide) rfl ?_
  refine r_icmp_ne_t (tgt := 47) C dX8_correct_42 (by decide) (fun z => absurd ((nI_eq (a := rN) (b := 200) (by omega) (by omega)).mp z) (by omega)) ?_
  have fin9 : V g k 11 w2 0 0 (kQ g k (fun v w' => v = some (.int (nI rN)) ∧ MdAt g w' m0 (nI 0) tk gN (rN + 1) tN (upN fn (9 * k9 + f) n) wn gp (apR by9 rN (crB (fn (9 * k9)) f n ps)) (upd rD rN (nI (upN fn (9 * k9 + f) n (9 * k9 + 6) / 86400))) tD tV tT ∧ Fm w w') 0 0) 91 [(8, .long (lN (upN fn (9 * k9 + f) n (9 * k9 + 4)))), (6, .long (lN (upN fn (9 * k9 + f) n (9 * k9 + 3)))), (0, .ref m0), (1, .int (nI k9)), (2, .int (nI f)), (3, .long (lN n)), (5, .int (nI ps))] [] := by
    refine r_lload (q := 93) C 1 dX8_correct_91 rfl rfl ?_
    refine r_lload (q := 95) C 0 dX8_correct_93 rfl rfl ?_
    refine r_lcmp_ge (q := 96) (q2 := 99) (tgt := 101) C dX8_correct_95 rfl dX8_correct_96 (by decide) rfl (fun _ => ?_) (fun hz7 => absurd ((pk_lLE (a := (upN fn (9 * k9 + f) n (9 * k9 + 4))) (b := (upN fn (9 * k9 + f) n (9 * k9 + 3))) (by omega) (by omega)).mpr (by omega)) (by first | exact hz7 | exact fun zz => zz hz7))
    refine r_aload_n (q := 102) C 2 dX8_correct_101 rfl rfl ?_
    refine r_get (q := 105) (t := 0) C koX8 e0 6 (by decide) q706 rfl rfl dX8_correct_102 rfl ?_
    refine r_bipush (q := 107) C (nI 9) dX8_correct_105 (by decide) rfl ?_
    refine r_iload_n (q := 108) C 3 dX8_correct_107 rfl rfl ?_
    refine r_imul (q := 109) C dX8_correct_108 rfl ?_
    refine r_ti (show ((nI 9) * (nI k9) : Int32) = nI (9 * k9) from pk_mul 9 k9) ?_
    refine r_iload_n (q := 110) C 4 dX8_correct_109 rfl rfl ?_
    refine r_iadd (q := 111) C dX8_correct_110 rfl ?_
    refine r_ti (show ((nI (9 * k9)) + (nI f) : Int32) = nI (9 * k9 + f) from nI_add (9 * k9) f) ?_
    refine r_lload_n (q := 112) C 5 dX8_correct_111 rfl rfl ?_
    refine r_last (q := 113) (t := 6) (w' := wd_set w2 6 (ad 6) (aL g 1800 (vp_updL (fun p => lN (fn p)) (9 * k9 + f) (lN n)))) C ((ef1 6 (by omega)).trans h6) (9 * k9 + f) rfl (by omega) (by decide) dX8_correct_112 rfl rfl ?_
    generalize hy8 : (wd_set w2 6 (ad 6) (aL g 1800 (vp_updL (fun p => lN (fn p)) (9 * k9 + f) (lN n)))) = y8w
    have y86 : y8w 6 = some (ad 6, aL g 1800 (fun p => lN (upN fn (9 * k9 + f) n p))) := by rw [← hy8]; rw [← upd_fn]; exact wd_eq
    have y83 : y8w 3 = some (ad 3, aI g 1100 tD) := by rw [← hy8]; exact ((wd_ne (by decide)).trans ((ef1 3 (by omega)).trans h3))
    have y84 : y8w 4 = some (ad 4, aI g 1100 tV) := by rw [← hy8]; exact ((wd_ne (by decide)).trans ((ef1 4 (by omega)).trans h4))
    have y85 : y8w 5 = some (ad 5, aI g 1100 tT) := by rw [← hy8]; exact ((wd_ne (by decide)).trans ((ef1 5 (by omega)).trans h5))
    have y87 : y8w 7 = some (ad 7, aI g 1600 (fun p => nI (wn p))) := by rw [← hy8]; exact ((wd_ne (by decide)).trans ((ef1 7 (by omega)).trans h7))
    have y88 : y8w 8 = some (ad 8, aI g 400 gp) := by rw [← hy8]; exact ((wd_ne (by decide)).trans ((ef1 8 (by omega)).trans h8))
    have y89 : y8w 9 = some (ad 9, aB g 14600 by9) := by rw [← hy8]; exact ((wd_ne (by decide)).trans ((ef1 9 (by omega)).trans h9))
    have y810 : y8w 10 = some (ad 10, aI g 200 rD) := by rw [← hy8]; exact ((wd_ne (by decide)).trans ((ef1 10 (by omega)).trans h10))
    have y816 : y8w 16 = some (ad 16, aB g 6400 lv) := by rw [← hy8]; exact ((wd_ne (by decide)).trans ((ef1 16 (by omega)).trans h16))
    have y817 : y8w 17 = some (ad 17, aB g 120 fo) := by rw [← hy8]; exact ((wd_ne (by decide)).trans ((ef1 17 (by omega)).trans h17))
    have y80 : y8w 0 = some (m0, mo ad (nI tN) (nI tk) (nI (tk + gN)) (nI gN) (nI rN) (nI 0) rS fS) := by rw [← hy8]; exact ((wd_ne (by decide)).trans e0)
    have kf : ∀ t, t ≠ 0 → t ≠ 6 → y8w t = w t := fun t a b => by rw [← hy8]; exact (wd_ne b).trans (ef1 t a)
    refine r_aload_n (q := 114) C 2 dX8_correct_113 rfl rfl ?_
    refine r_iconst (q := 115) C (nI 2) dX8_correct_114 (by decide) rfl ?_
    refine r_iload_n (q := 116) C 3 dX8_correct_115 rfl rfl ?_
    refine r_callV (q := 119) (t := 0) (As := [.int (nI 2), .int (nI k9)]) (st := []) C koX8 y80 (m_open (fn := upN fn (9 * k9 + f) n) y80 y86 y89 (by omega) (by decide) (by omega) (by rw [u0]; omega)) q812 q809 q811 qp18 q9 rfl ⟨by decide, by decide⟩ (show (parseMethodDescriptor yX8_open.desc).map (fun d => d.parameters.length) = some 2 by decide +kernel) (by decide) (by decide) (by decide) (by decide) (Nat.le_of_ble_eq_true rfl) rfl dX8_correct_116 rfl ?_
    rintro v9 w11 ⟨rfl, v99, of10⟩
    show V g k 11 w11 0 0 (kQ g k (fun v w' => v = some (.int (nI rN)) ∧ MdAt g w' m0 (nI 0) tk gN (rN + 1) tN (upN fn (9 * k9 + f) n) wn gp (apR by9 rN (crB (fn (9 * k9)) f n ps)) (upd rD rN (nI (upN fn (9 * k9 + f) n (9 * k9 + 6) / 86400))) tD tV tT ∧ Fm w w') 0 0) 119 [(8, .long (lN (upN fn (9 * k9 + f) n (9 * k9 + 4)))), (6, .long (lN (upN fn (9 * k9 + f) n (9 * k9 + 3)))), (0, .ref m0), (1, .int (nI k9)), (2, .int (nI f)), (3, .long (lN n)), (5, .int (nI ps))] [.int (nI (73 * rN + 1 + 4))]
    refine r_ti (show (nI (73 * rN + 1 + 4) : Int32) = nI (73 * rN + 5) from by rw [show 73 * rN + 1 + 4 = 73 * rN + 5 by omega]) ?_
    refine r_istore (q := 121) (lv' := [(10, .int (nI (73 * rN + 5))), (8, .long (lN (upN fn (9 * k9 + f) n (9 * k9 + 4)))), (6, .long (lN (upN fn (9 * k9 + f) n (9 * k9 + 3)))), (0, .ref m0), (1, .int (nI k9)), (2, .int (nI f)), (3, .long (lN n)), (5, .int (nI ps))]) C dX8_correct_119 (by decide) rfl rfl ?_
    refine r_aload_n (q := 122) C 3 dX8_correct_121 rfl rfl ?_
    refine r_iload (q := 124) C 0 dX8_correct_122 rfl rfl ?_
    refine r_iload_n (q := 125) C 5 dX8_correct_124 rfl rfl ?_
    refine r_i2l (q := 126) C dX8_correct_125 rfl ?_
    refine r_tl (show ((nI f).toInt64 : Int64) = lN f from nI_l (by omega)) ?_
    refine r_iconst (q := 127) C (nI 4) dX8_correct_126 (by decide) rfl ?_
    refine r_callV (q := 130) (t := 0) (As := [.int (nI (73 * rN + 5)), .long (lN f), .int (nI 4)]) (st := []) C koX8 ((of10 0 (by omega)).trans y80) (m_write ((of10 0 (by omega)).trans y80) v99 (x := f) (a := 73 * rN + 5) (wd := 4) (by omega) (by decide) (by decide) (by omega)) q816 q813 q815 qp19 q9 rfl ⟨by decide, by decide⟩ (show (parseMethodDescriptor yX8_write.desc).map (fun d => d.parameters.length) = some 3 by decide +kernel) (by decide) (by decide) (by decide) (by decide) (Nat.le_of_ble_eq_true rfl) rfl dX8_correct_127 rfl ?_
    rintro v9 w15 ⟨rfl, v139', of14⟩
    show V g k 11 w15 0 0 (kQ g k (fun v w' => v = some (.int (nI rN)) ∧ MdAt g w' m0 (nI 0) tk gN (rN + 1) tN (upN fn (9 * k9 + f) n) wn gp (apR by9 rN (crB (fn (9 * k9)) f n ps)) (upd rD rN (nI (upN fn (9 * k9 + f) n (9 * k9 + 6) / 86400))) tD tV tT ∧ Fm w w') 0 0) 130 [(10, .int (nI (73 * rN + 5))), (8, .long (lN (upN fn (9 * k9 + f) n (9 * k9 + 4)))), (6, .long (lN (upN fn (9 * k9 + f) n (9 * k9 + 3)))), (0, .ref m0), (1, .int (nI k9)), (2, .int (nI f)), (3, .long (lN n)), (5, .int (nI ps))] [.int (nI (73 * rN + 5 + 4))]
    have v139 : w15 9 = some (ad 9, aB g 14600 (ovF by9 (73 * rN) (wrF (wrF (wrF (fun _ => 0) 0 1 1 (lN 2)) 1 4 4 (lN ((upN fn (9 * k9 + f) n) (9 * k9)))) 5 4 4 (lN f)))) := by rw [← wr_ov (by decide)]; exact v139'
    refine r_ti (show (nI (73 * rN + 5 + 4) : Int32) = nI (73 * rN + 9) from by rw [show 73 * rN + 5 + 4 = 73 * rN + 9 by omega]) ?_
    refine r_istore (q := 132) (lv' := [(10, .int (nI (73 * rN + 9))), (8, .long (lN (upN fn (9 * k9 + f) n (9 * k9 + 4)))), (6, .long (lN (upN fn (9 * k9 + f) n (9 * k9 + 3)))), (0, .ref m0), (1, .int (nI k9)), (2, .int (nI f)), (3, .long (lN n)), (5, .int (nI ps))]) C dX8_correct_130 (by decide) rfl rfl ?_
    refine r_aload_n (q := 133) C 3 dX8_correct_132 rfl rfl ?_
    refine r_iload (q := 135) C 0 dX8_correct_133 rfl rfl ?_
    refine r_lload_n (q := 136) C 6 dX8_correct_135 rfl rfl ?_
    refine r_bipush (q := 138) C (nI 8) dX8_correct_136 (by decide) rfl ?_
    refine r_callV (q := 141) (t := 0) (As := [.int (nI (73 * rN + 9)), .long (lN n), .int (nI 8)]) (st := []) C koX8 ((of14 0 (by omega)).trans ((of10 0 (by omega)).trans y80)) (m_write ((of14 0 (by omega)).trans ((of10 0 (by omega)).trans y80)) v139 (x := n) (a := 73 * rN + 9) (wd := 8) (by omega) (by decide) (by decide) (by omega)) q816 q813 q815 qp19 q9 rfl ⟨by decide, by decide⟩ (show (parseMethodDescriptor yX8_write.desc).map (fun d => d.parameters.length) = some 3 by decide +kernel) (by decide) (by decide) (by decide) (by decide) (Nat.le_of_ble_eq_true rfl) rfl dX8_correct_138 rfl ?_
    rintro v9 w19 ⟨rfl, v179', of18⟩
    show V g k 11 w19 0 0 (kQ g k (fun v w' => v = some (.int (nI rN)) ∧ MdAt g w' m0 (nI 0) tk gN (rN + 1) tN (upN fn (9 * k9 + f) n) wn gp (apR by9 rN (crB (fn (9 * k9)) f n ps)) (upd rD rN (nI (upN fn (9 * k9 + f) n (9 * k9 + 6) / 86400))) tD tV tT ∧ Fm w w') 0 0) 141 [(10, .int (nI (73 * rN + 9))), (8, .long (lN (upN fn (9 * k9 + f) n (9 * k9 + 4)))), (6, .long (lN (upN fn (9 * k9 + f) n (9 * k9 + 3)))), (0, .ref m0), (1, .int (nI k9)), (2, .int (nI f)), (3, .long (lN n)), (5, .int (nI ps))] [.int (nI (73 * rN + 9 + 8))]
    have v179 : w19 9 = some (ad 9, aB g 14600 (ovF by9 (73 * rN) (wrF (wrF (wrF (wrF (fun _ => 0) 0 1 1 (lN 2)) 1 4 4 (lN ((upN fn (9 * k9 + f) n) (9 * k9)))) 5 4 4 (lN f)) 9 8 8 (lN n)))) := by rw [← wr_ov (by decide)]; exact v179'
    refine r_ti (show (nI (73 * rN + 9 + 8) : Int32) = nI (73 * rN + 17) from by rw [show 73 * rN + 9 + 8 = 73 * rN + 17 by omega]) ?_
    refine r_istore (q := 143) (lv' := [(10, .int (nI (73 * rN + 17))), (8, .long (lN (upN fn (9 * k9 + f) n (9 * k9 + 4)))), (6, .long (lN (upN fn (9 * k9 + f) n (9 * k9 + 3)))), (0, .ref m0), (1, .int (nI k9)), (2, .int (nI f)), (3, .long (lN n)), (5, .int (nI ps))]) C dX8_correct_141 (by decide) rfl rfl ?_
    refine r_aload_n (q := 144) C 3 dX8_correct_143 rfl rfl ?_
    refine r_iload (q := 146) C 0 dX8_correct_144 rfl rfl ?_
    refine r_iload (q := 148) C 7 dX8_correct_146 rfl rfl ?_
    refine r_i2l (q := 149) C dX8_correct_148 rfl ?_
    refine r_tl (show ((nI ps).toInt64 : Int64) = lN ps from nI_l (by omega)) ?_
    refine r_iconst (q := 150) C (nI 4) dX8_correct_149 (by decide) rfl ?_
    refine r_callV (q := 153) (t := 0) (As := [.int (nI (73 * rN + 17)), .long (lN ps), .int (nI 4)]) (st := []) C koX8 ((of18 0 (by omega)).trans ((of14 0 (by omega)).trans ((of10 0 (by omega)).trans y80))) (m_write ((of18 0 (by omega)).trans ((of14 0 (by omega)).trans ((of10 0 (by omega)).trans y80))) v179 (x := ps) (a := 73 * rN + 17) (wd := 4) (by omega) (by decide) (by decide) (by omega)) q816 q813 q815 qp19 q9 rfl ⟨by decide, by decide⟩ (show (parseMethodDescriptor yX8_write.desc).map (fun d => d.parameters.length) = some 3 by decide +kernel) (by decide) (by decide) (by decide) (by decide) (Nat.le_of_ble_eq_true rfl) rfl dX8_correct_150 rfl ?_
    rintro v9 w23 ⟨rfl, v219', of22⟩
    show V g k 11 w23 0 0 (kQ g k (fun v w' => v = some (.int (nI rN)) ∧ MdAt g w' m0 (nI 0) tk gN (rN + 1) tN (upN fn (9 * k9 + f) n) wn gp (apR by9 rN (crB (fn (9 * k9)) f n ps)) (upd rD rN (nI (upN fn (9 * k9 + f) n (9 * k9 + 6) / 86400))) tD tV tT ∧ Fm w w') 0 0) 153 [(10, .int (nI (73 * rN + 17))), (8, .long (lN (upN fn (9 * k9 + f) n (9 * k9 + 4)))), (6, .long (lN (upN fn (9 * k9 + f) n (9 * k9 + 3)))), (0, .ref m0), (1, .int (nI k9)), (2, .int (nI f)), (3, .long (lN n)), (5, .int (nI ps))] [.int (nI (73 * rN + 17 + 4))]
    have v219 : w23 9 = some (ad 9, aB g 14600 (ovF by9 (73 * rN) (wrF (wrF (wrF (wrF (wrF (fun _ => 0) 0 1 1 (lN 2)) 1 4 4 (lN ((upN fn (9 * k9 + f) n) (9 * k9)))) 5 4 4 (lN f)) 9 8 8 (lN n)) 17 4 4 (lN ps)))) := by rw [← wr_ov (by decide)]; exact v219'
    refine r_ti (show (nI (73 * rN + 17 + 4) : Int32) = nI (73 * rN + 21) from by rw [show 73 * rN + 17 + 4 = 73 * rN + 21 by omega]) ?_
    refine r_istore (q := 155) (lv' := [(10, .int (nI (73 * rN + 21))), (8, .long (lN (upN fn (9 * k9 + f) n (9 * k9 + 4)))), (6, .long (lN (upN fn (9 * k9 + f) n (9 * k9 + 3)))), (0, .ref m0), (1, .int (nI k9)), (2, .int (nI f)), (3, .long (lN n)), (5, .int (nI ps))]) C dX8_correct_153 (by decide) rfl rfl ?_
    refine r_aload_n (q := 156) C 3 dX8_correct_155 rfl rfl ?_
    refine r_iload_n (q := 157) C 4 dX8_correct_156 rfl rfl ?_
    refine r_callV (q := 160) (t := 0) (As := [.int (nI k9)]) (st := []) C koX8 ((of22 0 (by omega)).trans ((of18 0 (by omega)).trans ((of14 0 (by omega)).trans ((of10 0 (by omega)).trans y80)))) (m_close (fn := upN fn (9 * k9 + f) n) (by9 := by9) (fb := wrF (wrF (wrF (wrF (wrF (fun _ => 0) 0 1 1 (lN 2)) 1 4 4 (lN ((upN fn (9 * k9 + f) n) (9 * k9)))) 5 4 4 (lN f)) 9 8 8 (lN n)) 17 4 4 (lN ps)) (rD := rD) (hks.kept (fun t _ _ => (of22 t (by omega)).trans ((of18 t (by omega)).trans ((of14 t (by omega)).trans ((of10 t (by omega)).trans (kf t (by omega) (by omega))))))) (hsc.kept (fun t _ _ => (of22 t (by omega)).trans ((of18 t (by omega)).trans ((of14 t (by omega)).trans ((of10 t (by omega)).trans (kf t (by omega) (by omega))))))) ((of22 0 (by omega)).trans ((of18 0 (by omega)).trans ((of14 0 (by omega)).trans ((of10 0 (by omega)).trans y80)))) ((of22 6 (by omega)).trans ((of18 6 (by omega)).trans ((of14 6 (by omega)).trans ((of10 6 (by omega)).trans y86)))) v219 ((of22 10 (by omega)).trans ((of18 10 (by omega)).trans ((of14 10 (by omega)).trans ((of10 10 (by omega)).trans y810)))) (by omega) (by omega) u6) q820 q817 q819 qp20 q9 rfl ⟨by decide, by decide⟩ (show (parseMethodDescriptor yX8_close.desc).map (fun d => d.parameters.length) = some 1 by decide +kernel) (by decide) (by decide) (by decide) (by decide) (Nat.le_of_ble_eq_true rfl) rfl dX8_correct_157 rfl ?_
    rintro v9 v25w ⟨rfl, v25s, v250, v259, v2510, v25f⟩
    show V g k 11 v25w 0 0 (kQ g k (fun v w' => v = some (.int (nI rN)) ∧ MdAt g w' m0 (nI 0) tk gN (rN + 1) tN (upN fn (9 * k9 + f) n) wn gp (apR by9 rN (crB (fn (9 * k9)) f n ps)) (upd rD rN (nI (upN fn (9 * k9 + f) n (9 * k9 + 6) / 86400))) tD tV tT ∧ Fm w w') 0 0) 160 [(10, .int (nI (73 * rN + 21))), (8, .long (lN (upN fn (9 * k9 + f) n (9 * k9 + 4)))), (6, .long (lN (upN fn (9 * k9 + f) n (9 * k9 + 3)))), (0, .ref m0), (1, .int (nI k9)), (2, .int (nI f)), (3, .long (lN n)), (5, .int (nI ps))] [.int (nI rN)]
    exact r_iret C rfl (by decide) (by decide) dX8_correct_160 ⟨rfl, ⟨ad, _, _, _, _, v250, hks.kept (fun t _ _ => (v25f t (by omega) (by omega)).trans ((of22 t (by omega)).trans ((of18 t (by omega)).trans ((of14 t (by omega)).trans ((of10 t (by omega)).trans (kf t (by omega) (by omega))))))), ((v25f 3 (by decide) (by decide)).trans ((of22 3 (by omega)).trans ((of18 3 (by omega)).trans ((of14 3 (by omega)).trans ((of10 3 (by omega)).trans y83))))), ((v25f 4 (by decide) (by decide)).trans ((of22 4 (by omega)).trans ((of18 4 (by omega)).trans ((of14 4 (by omega)).trans ((of10 4 (by omega)).trans y84))))), ((v25f 5 (by decide) (by decide)).trans ((of22 5 (by omega)).trans ((of18 5 (by omega)).trans ((of14 5 (by omega)).trans ((of10 5 (by omega)).trans y85))))), ((v25f 6 (by decide) (by decide)).trans ((of22 6 (by omega)).trans ((of18 6 (by omega)).trans ((of14 6 (by omega)).trans ((of10 6 (by omega)).trans y86))))), ((v25f 7 (by decide) (by decide)).trans ((of22 7 (by omega)).trans ((of18 7 (by omega)).trans ((of14 7 (by omega)).trans ((of10 7 (by omega)).trans y87))))), ((v25f 8 (by decide) (by decide)).trans ((of22 8 (by omega)).trans ((of18 8 (by omega)).trans ((of14 8 (by omega)).trans ((of10 8 (by omega)).trans y88))))), (by have := v259; rw [u0] at this; exact this), v2510, v25s, ((v25f 16 (by decide) (by decide)).trans ((of22 16 (by omega)).trans ((of18 16 (by omega)).trans ((of14 16 (by omega)).trans ((of10 16 (by omega)).trans y816))))), ((v25f 17 (by decide) (by decide)).trans ((of22 17 (by omega)).trans ((of18 17 (by omega)).trans ((of14 17 (by omega)).trans ((of10 17 (by omega)).trans y817)))))⟩, fun t ht => (v25f t (by omega) (by omega)).trans ((of22 t (by omega)).trans ((of18 t (by omega)).trans ((of14 t (by omega)).trans ((of10 t (by omega)).trans (kf t (by omega) (by omega))))))⟩
  refine r_iload_n (q := 48) C 2 dX8_correct_47 rfl rfl ?_
  refine r_iconst (q := 49) C (nI 3) dX8_correct_48 (by decide) rfl ?_
  refine r_icmp_ne (q := 52) (tgt := 56) C dX8_correct_49 (by decide) rfl (fun hc27 => ?_) (fun hc27 => ?_)
  · have hc27 : ¬ f = 3 := fun z => hc27 ((nI_eq (a := f) (b := 3) (by omega) (by omega)).mpr z)
    refine r_aload_n (q := 57) C 0 dX8_correct_56 rfl rfl ?_
    refine r_get (q := 60) (t := 0) C koX8 e0 6 (by decide) q706 rfl rfl dX8_correct_57 rfl ?_
    refine r_bipush (q := 62) C (nI 9) dX8_correct_60 (by decide) rfl ?_
    refine r_iload_n (q := 63) C 1 dX8_correct_62 rfl rfl ?_
    refine r_imul (q := 64) C dX8_correct_63 rfl ?_
    refine r_ti (show ((nI 9) * (nI k9) : Int32) = nI (9 * k9) from pk_mul 9 k9) ?_
    refine r_iconst (q := 65) C (nI 3) dX8_correct_64 (by decide) rfl ?_
    refine r_iadd (q := 66) C dX8_correct_65 rfl ?_
    refine r_ti (show ((nI (9 * k9)) + (nI 3) : Int32) = nI (9 * k9 + 3) from nI_add (9 * k9) 3) ?_
    refine r_lald (q := 67) (t := 6) C ((ef1 6 (by omega)).trans h6) (9 * k9 + 3) rfl (by omega) (by decide) dX8_correct_66 rfl ?_
    refine r_tl (show ((fun p => lN (fn p)) (9 * k9 + 3) : Int64) = lN (upN fn (9 * k9 + f) n (9 * k9 + 3)) from by show lN (fn (9 * k9 + 3)) = _; rw [upN_ne (by omega)]) ?_
    refine r_lstore (q := 69) (lv' := [(6, .long (lN (upN fn (9 * k9 + f) n (9 * k9 + 3)))), (0, .ref m0), (1, .int (nI k9)), (2, .int (nI f)), (3, .long (lN n)), (5, .int (nI ps))]) C dX8_correct_67 (by decide) rfl rfl ?_
    refine r_iload_n (q := 70) C 3 dX8_correct_69 rfl rfl ?_
    refine r_iconst (q := 71) C (nI 4) dX8_correct_70 (by decide) rfl ?_
    refine r_icmp_ne (q := 74) (tgt := 78) C dX8_correct_71 (by decide) rfl (fun hc29 => ?_) (fun hc29 => ?_)
    · have hc29 : ¬ f = 4 := fun z => hc29 ((nI_eq (a := f) (b := 4) (by omega) (by omega)).mpr z)
      refine r_aload_n (q := 79) C 1 dX8_correct_78 rfl rfl ?_
      refine r_get (q := 82) (t := 0) C koX8 e0 6 (by decide) q706 rfl rfl dX8_correct_79 rfl ?_
      refine r_bipush (q := 84) C (nI 9) dX8_correct_82 (by decide) rfl ?_
      refine r_iload_n (q := 85) C 2 dX8_correct_84 rfl rfl ?_
      refine r_imul (q := 86) C dX8_correct_85 rfl ?_
      refine r_ti (show ((nI 9) * (nI k9) : Int32) = nI (9 * k9) from pk_mul 9 k9) ?_
      refine r_iconst (q := 87) C (nI 4) dX8_correct_86 (by decide) rfl ?_
      refine r_iadd (q := 88) C dX8_correct_87 rfl ?_
      refine r_ti (show ((nI (9 * k9)) + (nI 4) : Int32) = nI (9 * k9 + 4) from nI_add (9 * k9) 4) ?_
      refine r_lald (q := 89) (t := 6) C ((ef1 6 (by omega)).trans h6) (9 * k9 + 4) rfl (by omega) (by decide) dX8_correct_88 rfl ?_
      refine r_tl (show ((fun p => lN (fn p)) (9 * k9 + 4) : Int64) = lN (upN fn (9 * k9 + f) n (9 * k9 + 4)) from by show lN (fn (9 * k9 + 4)) = _; rw [upN_ne (by omega)]) ?_
      refine r_lstore (q := 91) (lv' := [(8, .long (lN (upN fn (9 * k9 + f) n (9 * k9 + 4)))), (6, .long (lN (upN fn (9 * k9 + f) n (9 * k9 + 3)))), (0, .ref m0), (1, .int (nI k9)), (2, .int (nI f)), (3, .long (lN n)), (5, .int (nI ps))]) C dX8_correct_89 (by decide) rfl rfl ?_
      refine r_sub (lv' := [(8, .long (lN (upN fn (9 * k9 + f) n (9 * k9 + 4)))), (6, .long (lN (upN fn (9 * k9 + f) n (9 * k9 + 3)))), (0, .ref m0), (1, .int (nI k9)), (2, .int (nI f)), (3, .long (lN n)), (5, .int (nI ps))]) [0, 1, 2, 3, 4, 5, 6] rfl ?_
      exact fin9
    · have hc29 : f = 4 := (nI_eq (a := f) (b := 4) (by omega) (by omega)).mp hc29
      refine r_lload_n (q := 75) C 4 dX8_correct_74 rfl rfl ?_
      refine r_goto (tgt := 89) C dX8_correct_75 (by decide) ?_
      refine r_tl (show (lN n : Int64) = lN (upN fn (9 * k9 + f) n (9 * k9 + 4)) from by rw [hc29, upN_eq]) ?_
      refine r_lstore (q := 91) (lv' := [(8, .long (lN (upN fn (9 * k9 + f) n (9 * k9 + 4)))), (6, .long (lN (upN fn (9 * k9 + f) n (9 * k9 + 3)))), (0, .ref m0), (1, .int (nI k9)), (2, .int (nI f)), (3, .long (lN n)), (5, .int (nI ps))]) C dX8_correct_89 (by decide) rfl rfl ?_
      refine r_sub (lv' := [(8, .long (lN (upN fn (9 * k9 + f) n (9 * k9 + 4)))), (6, .long (lN (upN fn (9 * k9 + f) n (9 * k9 + 3)))), (0, .ref m0), (1, .int (nI k9)), (2, .int (nI f)), (3, .long (lN n)), (5, .int (nI ps))]) [0, 1, 2, 3, 4, 5, 6] rfl ?_
      exact fin9
  · have hc27 : f = 3 := (nI_eq (a := f) (b := 3) (by omega) (by omega)).mp hc27
    refine r_lload_n (q := 53) C 3 dX8_correct_52 rfl rfl ?_
    refine r_goto (tgt := 67) C dX8_correct_53 (by decide) ?_
    refine r_tl (show (lN n : Int64) = lN (upN fn (9 * k9 + f) n (9 * k9 + 3)) from by rw [hc27, upN_eq]) ?_
    refine r_lstore (q := 69) (lv' := [(6, .long (lN (upN fn (9 * k9 + f) n (9 * k9 + 3)))), (0, .ref m0), (1, .int (nI k9)), (2, .int (nI f)), (3, .long (lN n)), (5, .int (nI ps))]) C dX8_correct_67 (by decide) rfl rfl ?_
    refine r_iload_n (q := 70) C 3 dX8_correct_69 rfl rfl ?_
    refine r_iconst (q := 71) C (nI 4) dX8_correct_70 (by decide) rfl ?_
    refine r_icmp_ne (q := 74) (tgt := 78) C dX8_correct_71 (by decide) rfl (fun hc33 => ?_) (fun hc33 => ?_)
    · have hc33 : ¬ f = 4 := fun z => hc33 ((nI_eq (a := f) (b := 4) (by omega) (by omega)).mpr z)
      refine r_aload_n (q := 79) C 1 dX8_correct_78 rfl rfl ?_
      refine r_get (q := 82) (t := 0) C koX8 e0 6 (by decide) q706 rfl rfl dX8_correct_79 rfl ?_
      refine r_bipush (q := 84) C (nI 9) dX8_correct_82 (by decide) rfl ?_
      refine r_iload_n (q := 85) C 2 dX8_correct_84 rfl rfl ?_
      refine r_imul (q := 86) C dX8_correct_85 rfl ?_
      refine r_ti (show ((nI 9) * (nI k9) : Int32) = nI (9 * k9) from pk_mul 9 k9) ?_
      refine r_iconst (q := 87) C (nI 4) dX8_correct_86 (by decide) rfl ?_
      refine r_iadd (q := 88) C dX8_correct_87 rfl ?_
      refine r_ti (show ((nI (9 * k9)) + (nI 4) : Int32) = nI (9 * k9 + 4) from nI_add (9 * k9) 4) ?_
      refine r_lald (q := 89) (t := 6) C ((ef1 6 (by omega)).trans h6) (9 * k9 + 4) rfl (by omega) (by decide) dX8_correct_88 rfl ?_
      refine r_tl (show ((fun p => lN (fn p)) (9 * k9 + 4) : Int64) = lN (upN fn (9 * k9 + f) n (9 * k9 + 4)) from by show lN (fn (9 * k9 + 4)) = _; rw [upN_ne (by omega)]) ?_
      refine r_lstore (q := 91) (lv' := [(8, .long (lN (upN fn (9 * k9 + f) n (9 * k9 + 4)))), (6, .long (lN (upN fn (9 * k9 + f) n (9 * k9 + 3)))), (0, .ref m0), (1, .int (nI k9)), (2, .int (nI f)), (3, .long (lN n)), (5, .int (nI ps))]) C dX8_correct_89 (by decide) rfl rfl ?_
      refine r_sub (lv' := [(8, .long (lN (upN fn (9 * k9 + f) n (9 * k9 + 4)))), (6, .long (lN (upN fn (9 * k9 + f) n (9 * k9 + 3)))), (0, .ref m0), (1, .int (nI k9)), (2, .int (nI f)), (3, .long (lN n)), (5, .int (nI ps))]) [0, 1, 2, 3, 4, 5, 6] rfl ?_
      exact fin9
    · have hc33 : f = 4 := (nI_eq (a := f) (b := 4) (by omega) (by omega)).mp hc33
      refine r_lload_n (q := 75) C 4 dX8_correct_74 rfl rfl ?_
      refine r_goto (tgt := 89) C dX8_correct_75 (by decide) ?_
      refine r_tl (show (lN n : Int64) = lN (upN fn (9 * k9 + f) n (9 * k9 + 4)) from by rw [hc33, upN_eq]) ?_
      refine r_lstore (q := 91) (lv' := [(8, .long (lN (upN fn (9 * k9 + f) n (9 * k9 + 4)))), (6, .long (lN (upN fn (9 * k9 + f) n (9 * k9 + 3)))), (0, .ref m0), (1, .int (nI k9)), (2, .int (nI f)), (3, .long (lN n)), (5, .int (nI ps))]) C dX8_correct_89 (by decide) rfl rfl ?_
      refine r_sub (lv' := [(8, .long (lN (upN fn (9 * k9 + f) n (9 * k9 + 4)))), (6, .long (lN (upN fn (9 * k9 + f) n (9 * k9 + 3)))), (0, .ref m0), (1, .int (nI k9)), (2, .int (nI f)), (3, .long (lN n)), (5, .int (nI ps))]) [0, 1, 2, 3, 4, 5, 6] rfl ?_
      exact fin9
