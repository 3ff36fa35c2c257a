/-! the reference: byteAt, voids, correct -/
set_option maxHeartbeats 4000000 in
set_option maxRecDepth 20000 in
theorem y_byt_y {l : Launch} {g : cx_G} {w : wd_T} {c m0 tk gN rN tN : Nat} {fl : Int32} {fn wn : Nat → Nat} {gp by9 rD tD tV tT : Nat → Int32} (hM : MdAt g w m0 fl tk gN rN tN fn wn gp by9 rD tD tV tT) (hI : Iv9 c tk gN rN tN fn wn by9 tD tV tT) {k9 : Nat} (hk9 : k9 < rN) {i : Nat} (hi : i < 73) : Mt l g yX8_byteAt cX8_byteAt 3 (some .int) 1 0 0 w [.ref m0, .int (nI k9), .int (nI i)] (fun v w' => v = some (.int (by9 (73 * k9 + i) &&& nI 255)) ∧ MdAt g w' m0 (nI 0) tk gN rN tN fn wn gp by9 rD tD tV tT ∧ Fm w w') := by
  refine mt_of RX8 "byteAt" rfl rfl (by decide) (Nat.le_of_ble_eq_true rfl) [(0, .ref m0), (1, .int (nI k9)), (2, .int (nI i))] rfl ?_
  intro k hkl C hin
  subst hkl
  obtain ⟨ad, rS, fS, lv, fo, h0, hks, h3, h4, h5, h6, h7, h8, h9, h10, hsc, h16, h17⟩ := id hM
  obtain ⟨i0, i1, i2, i3, i4, i5, i6, i7, i8, i9, i10⟩ := id hI
  refine r_aload_n (q := 1) C 0 dX8_byteAt_0 rfl rfl ?_
  refine r_aload_n (q := 2) C 0 dX8_byteAt_1 rfl rfl ?_
  refine r_iload_n (q := 3) C 1 dX8_byteAt_2 rfl rfl ?_
  refine r_callV (q := 6) (t := 0) (As := [.int (nI k9)]) (st := [.ref m0]) C koX8 h0 (m_isr_y h0 (by omega) hk9) q908 q905 q907 qp29 q9 rfl ⟨by decide, by decide⟩ (show (parseMethodDescriptor yX8_isRow.desc).map (fun d => d.parameters.length) = some 1 by decide +kernel) (by decide) (by decide) (by decide) (by decide) (Nat.le_of_ble_eq_true rfl) rfl dX8_byteAt_3 rfl ?_
  rintro v9 w2 ⟨rfl, e0, ef1⟩
  show V g k 3 w2 0 0 (kQ g k (fun v w' => v = some (.int (by9 (73 * k9 + i) &&& nI 255)) ∧ MdAt g w' m0 (nI 0) tk gN rN tN fn wn gp by9 rD tD tV tT ∧ Fm w w') 0 0) 6 [(0, .ref m0), (1, .int (nI k9)), (2, .int (nI i))] [.int (nI 1), .ref m0]
  refine r_if_eq_f (q := 9) (tgt := 20) C dX8_byteAt_6 (by decide) rfl (by decide) ?_
  refine r_iload_n (q := 10) C 2 dX8_byteAt_9 rfl rfl ?_
  refine r_i2l (q := 11) C dX8_byteAt_10 rfl ?_
  refine r_tl (show ((nI i).toInt64 : Int64) = lN i from nI_l (by omega)) ?_
  refine r_ldc2 (q := 14) (v := lN 72) C dX8_byteAt_11 q909 rfl ?_
  refine r_callS (q := 17) (As := [.long (lN i), .long (lN 72)]) (st := [.ref m0]) C (m_in_y (n := i) (b := 72) (by omega) (by decide)) q787 q785 q786 q9 ⟨by decide, by decide⟩ (show (parseMethodDescriptor yX8_isIn.desc).map (fun d => d.parameters.length) = some 2 by decide +kernel) (by decide) (by decide) (by decide) (by decide) (Nat.le_of_ble_eq_true rfl) rfl dX8_byteAt_14 rfl ?_
  rintro v9 w4 ⟨rfl, rfl⟩
  show V g k 3 w2 0 0 (kQ g k (fun v w' => v = some (.int (by9 (73 * k9 + i) &&& nI 255)) ∧ MdAt g w' m0 (nI 0) tk gN rN tN fn wn gp by9 rD tD tV tT ∧ Fm w w') 0 0) 17 [(0, .ref m0), (1, .int (nI k9)), (2, .int (nI i))] [.int (nI 1), .ref m0]
  refine r_if_ne_t (tgt := 24) C dX8_byteAt_17 (by decide) (by decide) ?_
  refine r_iconst (q := 25) C (nI 0) dX8_byteAt_24 (by decide) rfl ?_
  refine r_put (q := 28) (t := 0) (w' := wd_set w2 0 m0 (mo ad (nI tN) (nI tk) (nI (tk + gN)) (nI gN) (nI rN) (nI 0) rS fS)) C koX8 e0 15 (by decide) q715 rfl rfl rfl rfl (Nat.le_of_ble_eq_true rfl) dX8_byteAt_25 rfl rfl ?_
  refine r_aload_n (q := 29) C 0 dX8_byteAt_28 rfl rfl ?_
  refine r_get (q := 32) (t := 0) C koX8 wd_eq 15 (by decide) q715 rfl rfl dX8_byteAt_29 rfl ?_
  refine r_if_le_t (tgt := 39) C dX8_byteAt_32 (by decide) (by decide) ?_
  refine r_aload_n (q := 40) C 0 dX8_byteAt_39 rfl rfl ?_
  refine r_get (q := 43) (t := 0) C koX8 wd_eq 12 (by decide) q712 rfl rfl dX8_byteAt_40 rfl ?_
  refine r_bipush (q := 45) C (nI 73) dX8_byteAt_43 (by decide) rfl ?_
  refine r_iload_n (q := 46) C 1 dX8_byteAt_45 rfl rfl ?_
  refine r_imul (q := 47) C dX8_byteAt_46 rfl ?_
  refine r_ti (show ((nI 73) * (nI k9) : Int32) = nI (73 * k9) from pk_mul 73 k9) ?_
  refine r_iload_n (q := 48) C 2 dX8_byteAt_47 rfl rfl ?_
  refine r_iadd (q := 49) C dX8_byteAt_48 rfl ?_
  refine r_ti (show ((nI (73 * k9)) + (nI i) : Int32) = nI (73 * k9 + i) from nI_add (73 * k9) i) ?_
  refine r_bald (q := 50) (t := 9) C ((wd_ne (by decide)).trans ((ef1 9 (by omega)).trans h9)) (73 * k9 + i) rfl (by omega) (by decide) dX8_byteAt_49 rfl ?_
  refine r_sipush (q := 53) C (nI 255) dX8_byteAt_50 (by decide) rfl ?_
  refine r_iand (q := 54) C dX8_byteAt_53 rfl ?_
  exact r_iret C rfl (by decide) (by decide) dX8_byteAt_54 ⟨rfl, ⟨ad, _, _, _, _, wd_eq, hks.kept (fun t _ _ => (wd_ne (by omega)).trans (ef1 t (by omega))), ((wd_ne (by decide)).trans ((ef1 3 (by omega)).trans h3)), ((wd_ne (by decide)).trans ((ef1 4 (by omega)).trans h4)), ((wd_ne (by decide)).trans ((ef1 5 (by omega)).trans h5)), ((wd_ne (by decide)).trans ((ef1 6 (by omega)).trans h6)), ((wd_ne (by decide)).trans ((ef1 7 (by omega)).trans h7)), ((wd_ne (by decide)).trans ((ef1 8 (by omega)).trans h8)), ((wd_ne (by decide)).trans ((ef1 9 (by omega)).trans h9)), ((wd_ne (by decide)).trans ((ef1 10 (by omega)).trans h10)), hsc.kept (fun t _ _ => (wd_ne (by omega)).trans (ef1 t (by omega))), ((wd_ne (by decide)).trans ((ef1 16 (by omega)).trans h16)), ((wd_ne (by decide)).trans ((ef1 17 (by omega)).trans h17))⟩, fun t ht => (wd_ne (by omega)).trans (ef1 t (by omega))⟩

set_option maxHeartbeats 4000000 in
set_option maxRecDepth 20000 in
theorem y_byt_n {l : Launch} {g : cx_G} {w : wd_T} {c m0 tk gN rN tN : Nat} {fl : Int32} {fn wn : Nat → Nat} {gp by9 rD tD tV tT : Nat → Int32} (hM : MdAt g w m0 fl tk gN rN tN fn wn gp by9 rD tD tV tT) (hI : Iv9 c tk gN rN tN fn wn by9 tD tV tT) {x : Int32} (hx : x < 0 ∨ nI rN ≤ x) {y : Int32} : Mt l g yX8_byteAt cX8_byteAt 3 (some .int) 1 0 0 w [.ref m0, .int x, .int y] (fun v w' => v = some (.int (nI 0)) ∧ MdAt g w' m0 (nI 1) tk gN rN tN fn wn gp by9 rD tD tV tT ∧ Fm w w') := by
  refine mt_of RX8 "byteAt" rfl rfl (by decide) (Nat.le_of_ble_eq_true rfl) [(0, .ref m0), (1, .int x), (2, .int y)] rfl ?_
  intro k hkl C hin
  subst hkl
  obtain ⟨ad, rS, fS, lv, fo, h0, hks, h3, h4, h5, h6, h7, h8, h9, h10, hsc, h16, h17⟩ := id hM
  obtain ⟨i0, i1, i2, i3, i4, i5, i6, i7, i8, i9, i10⟩ := id hI
  refine r_aload_n (q := 1) C 0 dX8_byteAt_0 rfl rfl ?_
  refine r_aload_n (q := 2) C 0 dX8_byteAt_1 rfl rfl ?_
  refine r_iload_n (q := 3) C 1 dX8_byteAt_2 rfl rfl ?_
  refine r_callV (q := 6) (t := 0) (As := [.int x]) (st := [.ref m0]) C koX8 h0 (m_isr_n h0 (by omega) hx) q908 q905 q907 qp29 q9 rfl ⟨by decide, by decide⟩ (show (parseMethodDescriptor yX8_isRow.desc).map (fun d => d.parameters.length) = some 1 by decide +kernel) (by decide) (by decide) (by decide) (by decide) (Nat.le_of_ble_eq_true rfl) rfl dX8_byteAt_3 rfl ?_
  rintro v9 w2 ⟨rfl, e0, ef1⟩
  show V g k 3 w2 0 0 (kQ g k (fun v w' => v = some (.int (nI 0)) ∧ MdAt g w' m0 (nI 1) tk gN rN tN fn wn gp by9 rD tD tV tT ∧ Fm w w') 0 0) 6 [(0, .ref m0), (1, .int x), (2, .int y)] [.int (nI 0), .ref m0]
  refine r_if_eq_t (tgt := 20) C dX8_byteAt_6 (by decide) (by decide) ?_
  refine r_iconst (q := 21) C (nI 1) dX8_byteAt_20 (by decide) rfl ?_
  refine r_goto (tgt := 25) C dX8_byteAt_21 (by decide) ?_
  refine r_put (q := 28) (t := 0) (w' := wd_set w2 0 m0 (mo ad (nI tN) (nI tk) (nI (tk + gN)) (nI gN) (nI rN) (nI 1) rS fS)) C koX8 e0 15 (by decide) q715 rfl rfl rfl rfl (Nat.le_of_ble_eq_true rfl) dX8_byteAt_25 rfl rfl ?_
  refine r_aload_n (q := 29) C 0 dX8_byteAt_28 rfl rfl ?_
  refine r_get (q := 32) (t := 0) C koX8 wd_eq 15 (by decide) q715 rfl rfl dX8_byteAt_29 rfl ?_
  refine r_if_le_f (q := 35) (tgt := 39) C dX8_byteAt_32 (by decide) rfl (by decide) ?_
  refine r_iconst (q := 36) C (nI 0) dX8_byteAt_35 (by decide) rfl ?_
  refine r_goto (tgt := 54) C dX8_byteAt_36 (by decide) ?_
  exact r_iret C rfl (by decide) (by decide) dX8_byteAt_54 ⟨rfl, ⟨ad, _, _, _, _, wd_eq, hks.kept (fun t _ _ => (wd_ne (by omega)).trans (ef1 t (by omega))), ((wd_ne (by decide)).trans ((ef1 3 (by omega)).trans h3)), ((wd_ne (by decide)).trans ((ef1 4 (by omega)).trans h4)), ((wd_ne (by decide)).trans ((ef1 5 (by omega)).trans h5)), ((wd_ne (by decide)).trans ((ef1 6 (by omega)).trans h6)), ((wd_ne (by decide)).trans ((ef1 7 (by omega)).trans h7)), ((wd_ne (by decide)).trans ((ef1 8 (by omega)).trans h8)), ((wd_ne (by decide)).trans ((ef1 9 (by omega)).trans h9)), ((wd_ne (by decide)).trans ((ef1 10 (by omega)).trans h10)), hsc.kept (fun t _ _ => (wd_ne (by omega)).trans (ef1 t (by omega))), ((wd_ne (by decide)).trans ((ef1 16 (by omega)).trans h16)), ((wd_ne (by decide)).trans ((ef1 17 (by omega)).trans h17))⟩, fun t ht => (wd_ne (by omega)).trans (ef1 t (by omega))⟩

set_option maxHeartbeats 4000000 in
set_option maxRecDepth 20000 in
theorem y_byt_i {l : Launch} {g : cx_G} {w : wd_T} {c m0 tk gN rN tN : Nat} {fl : Int32} {fn wn : Nat → Nat} {gp by9 rD tD tV tT : Nat → Int32} (hM : MdAt g w m0 fl tk gN rN tN fn wn gp by9 rD tD tV tT) (hI : Iv9 c tk gN rN tN fn wn by9 tD tV tT) {k9 : Nat} (hk9 : k9 < rN) {y : Int32} (hy : y < 0 ∨ nI 73 ≤ y) : Mt l g yX8_byteAt cX8_byteAt 3 (some .int) 1 0 0 w [.ref m0, .int (nI k9), .int y] (fun v w' => v = some (.int (nI 0)) ∧ MdAt g w' m0 (nI 1) tk gN rN tN fn wn gp by9 rD tD tV tT ∧ Fm w w') := by
  refine mt_of RX8 "byteAt" rfl rfl (by decide) (Nat.le_of_ble_eq_true rfl) [(0, .ref m0), (1, .int (nI k9)), (2, .int y)] rfl ?_
  intro k hkl C hin
  subst hkl
  obtain ⟨ad, rS, fS, lv, fo, h0, hks, h3, h4, h5, h6, h7, h8, h9, h10, hsc, h16, h17⟩ := id hM
  obtain ⟨i0, i1, i2, i3, i4, i5, i6, i7, i8, i9, i10⟩ := id hI
  refine r_aload_n (q := 1) C 0 dX8_byteAt_0 rfl rfl ?_
  refine r_aload_n (q := 2) C 0 dX8_byteAt_1 rfl rfl ?_
  refine r_iload_n (q := 3) C 1 dX8_byteAt_2 rfl rfl ?_
  refine r_callV (q := 6) (t := 0) (As := [.int (nI k9)]) (st := [.ref m0]) C koX8 h0 (m_isr_y h0 (by omega) hk9) q908 q905 q907 qp29 q9 rfl ⟨by decide, by decide⟩ (show (parseMethodDescriptor yX8_isRow.desc).map (fun d => d.parameters.length) = some 1 by decide +kernel) (by decide) (by decide) (by decide) (by decide) (Nat.le_of_ble_eq_true rfl) rfl dX8_byteAt_3 rfl ?_
  rintro v9 w2 ⟨rfl, e0, ef1⟩
  show V g k 3 w2 0 0 (kQ g k (fun v w' => v = some (.int (nI 0)) ∧ MdAt g w' m0 (nI 1) tk gN rN tN fn wn gp by9 rD tD tV tT ∧ Fm w w') 0 0) 6 [(0, .ref m0), (1, .int (nI k9)), (2, .int y)] [.int (nI 1), .ref m0]
  refine r_if_eq_f (q := 9) (tgt := 20) C dX8_byteAt_6 (by decide) rfl (by decide) ?_
  refine r_iload_n (q := 10) C 2 dX8_byteAt_9 rfl rfl ?_
  refine r_i2l (q := 11) C dX8_byteAt_10 rfl ?_
  refine r_ldc2 (q := 14) (v := lN 72) C dX8_byteAt_11 q909 rfl ?_
  refine r_callS (q := 17) (As := [.long y.toInt64, .long (lN 72)]) (st := [.ref m0]) C (m_in_n (b := 72) (in_i (by decide) hy) (by decide)) q787 q785 q786 q9 ⟨by decide, by decide⟩ (show (parseMethodDescriptor yX8_isIn.desc).map (fun d => d.parameters.length) = some 2 by decide +kernel) (by decide) (by decide) (by decide) (by decide) (Nat.le_of_ble_eq_true rfl) rfl dX8_byteAt_14 rfl ?_
  rintro v9 w4 ⟨rfl, rfl⟩
  show V g k 3 w2 0 0 (kQ g k (fun v w' => v = some (.int (nI 0)) ∧ MdAt g w' m0 (nI 1) tk gN rN tN fn wn gp by9 rD tD tV tT ∧ Fm w w') 0 0) 17 [(0, .ref m0), (1, .int (nI k9)), (2, .int y)] [.int (nI 0), .ref m0]
  refine r_if_ne_f (q := 20) (tgt := 24) C dX8_byteAt_17 (by decide) rfl (by decide) ?_
  refine r_iconst (q := 21) C (nI 1) dX8_byteAt_20 (by decide) rfl ?_
  refine r_goto (tgt := 25) C dX8_byteAt_21 (by decide) ?_
  refine r_put (q := 28) (t := 0) (w' := wd_set w2 0 m0 (mo ad (nI tN) (nI tk) (nI (tk + gN)) (nI gN) (nI rN) (nI 1) rS fS)) C koX8 e0 15 (by decide) q715 rfl rfl rfl rfl (Nat.le_of_ble_eq_true rfl) dX8_byteAt_25 rfl rfl ?_
  refine r_aload_n (q := 29) C 0 dX8_byteAt_28 rfl rfl ?_
  refine r_get (q := 32) (t := 0) C koX8 wd_eq 15 (by decide) q715 rfl rfl dX8_byteAt_29 rfl ?_
  refine r_if_le_f (q := 35) (tgt := 39) C dX8_byteAt_32 (by decide) rfl (by decide) ?_
  refine r_iconst (q := 36) C (nI 0) dX8_byteAt_35 (by decide) rfl ?_
  refine r_goto (tgt := 54) C dX8_byteAt_36 (by decide) ?_
  exact r_iret C rfl (by decide) (by decide) dX8_byteAt_54 ⟨rfl, ⟨ad, _, _, _, _, wd_eq, hks.kept (fun t _ _ => (wd_ne (by omega)).trans (ef1 t (by omega))), ((wd_ne (by decide)).trans ((ef1 3 (by omega)).trans h3)), ((wd_ne (by decide)).trans ((ef1 4 (by omega)).trans h4)), ((wd_ne (by decide)).trans ((ef1 5 (by omega)).trans h5)), ((wd_ne (by decide)).trans ((ef1 6 (by omega)).trans h6)), ((wd_ne (by decide)).trans ((ef1 7 (by omega)).trans h7)), ((wd_ne (by decide)).trans ((ef1 8 (by omega)).trans h8)), ((wd_ne (by decide)).trans ((ef1 9 (by omega)).trans h9)), ((wd_ne (by decide)).trans ((ef1 10 (by omega)).trans h10)), hsc.kept (fun t _ _ => (wd_ne (by omega)).trans (ef1 t (by omega))), ((wd_ne (by decide)).trans ((ef1 16 (by omega)).trans h16)), ((wd_ne (by decide)).trans ((ef1 17 (by omega)).trans h17))⟩, fun t ht => (wd_ne (by omega)).trans (ef1 t (by omega))⟩

set_option maxHeartbeats 4000000 in
set_option maxRecDepth 20000 in
theorem y_vd_n {l : Launch} {g : cx_G} {w : wd_T} {c m0 tk gN rN tN : Nat} {fl : Int32} {fn wn : Nat → Nat} {gp by9 rD tD tV tT : Nat → Int32} (hM : MdAt g w m0 fl tk gN rN tN fn wn gp by9 rD tD tV tT) (hI : Iv9 c tk gN rN tN fn wn by9 tD tV tT) {x : Int32} (hx : x < 0 ∨ nI tk ≤ x) {y : Int32} : Mt l g yX8_voids cX8_voids 4 (some .int) 5 0 0 w [.ref m0, .int x, .int y] (fun v w' => v = some (.int (-1)) ∧ MdAt g w' m0 (nI 0) tk gN rN tN fn wn gp by9 rD tD tV tT ∧ Fm w w') := by
  refine mt_of RX8 "voids" rfl rfl (by decide) (Nat.le_of_ble_eq_true rfl) [(0, .ref m0), (1, .int x), (2, .int y)] rfl ?_
  intro k hkl C hin
  subst hkl
  obtain ⟨ad, rS, fS, lv, fo, h0, hks, h3, h4, h5, h6, h7, h8, h9, h10, hsc, h16, h17⟩ := id hM
  obtain ⟨i0, i1, i2, i3, i4, i5, i6, i7, i8, i9, i10⟩ := id hI
  refine r_aload_n (q := 1) C 0 dX8_voids_0 rfl rfl ?_
  refine r_iload_n (q := 2) C 1 dX8_voids_1 rfl rfl ?_
  refine r_callV (q := 5) (t := 0) (As := [.int x]) (st := []) C koX8 h0 (m_ist_n h0 (by omega) hx) q847 q844 q846 qp25 q9 rfl ⟨by decide, by decide⟩ (show (parseMethodDescriptor yX8_isTicket.desc).map (fun d => d.parameters.length) = some 1 by decide +kernel) (by decide) (by decide) (by decide) (by decide) (Nat.le_of_ble_eq_true rfl) rfl dX8_voids_2 rfl ?_
  rintro v9 w2 ⟨rfl, e0, ef1⟩
  show V g k 4 w2 0 0 (kQ g k (fun v w' => v = some (.int (-1)) ∧ MdAt g w' m0 (nI 0) tk gN rN tN fn wn gp by9 rD tD tV tT ∧ Fm w w') 0 0) 5 [(0, .ref m0), (1, .int x), (2, .int y)] [.int (nI 0)]
  refine r_if_eq_t (tgt := 37) C dX8_voids_5 (by decide) (by decide) ?_
  refine r_iconst (q := 38) C ((-1)) dX8_voids_37 (by decide) rfl ?_
  exact r_iret C rfl (by decide) (by decide) dX8_voids_38 ⟨rfl, ⟨ad, _, _, _, _, e0, hks.kept (fun t _ _ => ef1 t (by omega)), ((ef1 3 (by omega)).trans h3), ((ef1 4 (by omega)).trans h4), ((ef1 5 (by omega)).trans h5), ((ef1 6 (by omega)).trans h6), ((ef1 7 (by omega)).trans h7), ((ef1 8 (by omega)).trans h8), ((ef1 9 (by omega)).trans h9), ((ef1 10 (by omega)).trans h10), hsc.kept (fun t _ _ => ef1 t (by omega)), ((ef1 16 (by omega)).trans h16), ((ef1 17 (by omega)).trans h17)⟩, fun t ht => ef1 t (by omega)⟩

set_option maxHeartbeats 4000000 in
set_option maxRecDepth 20000 in
theorem y_vd_r {l : Launch} {g : cx_G} {w : wd_T} {c m0 tk gN rN tN : Nat} {fl : Int32} {fn wn : Nat → Nat} {gp by9 rD tD tV tT : Nat → Int32} (hM : MdAt g w m0 fl tk gN rN tN fn wn gp by9 rD tD tV tT) (hI : Iv9 c tk gN rN tN fn wn by9 tD tV tT) {k9 : Nat} (hk9 : k9 < tk) {y : Int32} (hy : y < nI 1 ∨ nI 99 < y) : Mt l g yX8_voids cX8_voids 4 (some .int) 5 0 0 w [.ref m0, .int (nI k9), .int y] (fun v w' => v = some (.int (-1)) ∧ MdAt g w' m0 (nI 0) tk gN rN tN fn wn gp by9 rD tD tV tT ∧ Fm w w') := by
  refine mt_of RX8 "voids" rfl rfl (by decide) (Nat.le_of_ble_eq_true rfl) [(0, .ref m0), (1, .int (nI k9)), (2, .int y)] rfl ?_
  intro k hkl C hin
  subst hkl
  obtain ⟨ad, rS, fS, lv, fo, h0, hks, h3, h4, h5, h6, h7, h8, h9, h10, hsc, h16, h17⟩ := id hM
  obtain ⟨i0, i1, i2, i3, i4, i5, i6, i7, i8, i9, i10⟩ := id hI
  refine r_aload_n (q := 1) C 0 dX8_voids_0 rfl rfl ?_
  refine r_iload_n (q := 2) C 1 dX8_voids_1 rfl rfl ?_
  refine r_callV (q := 5) (t := 0) (As := [.int (nI k9)]) (st := []) C koX8 h0 (m_ist_y h0 (by omega) hk9) q847 q844 q846 qp25 q9 rfl ⟨by decide, by decide⟩ (show (parseMethodDescriptor yX8_isTicket.desc).map (fun d => d.parameters.length) = some 1 by decide +kernel) (by decide) (by decide) (by decide) (by decide) (Nat.le_of_ble_eq_true rfl) rfl dX8_voids_2 rfl ?_
  rintro v9 w2 ⟨rfl, e0, ef1⟩
  show V g k 4 w2 0 0 (kQ g k (fun v w' => v = some (.int (-1)) ∧ MdAt g w' m0 (nI 0) tk gN rN tN fn wn gp by9 rD tD tV tT ∧ Fm w w') 0 0) 5 [(0, .ref m0), (1, .int (nI k9)), (2, .int y)] [.int (nI 1)]
  refine r_if_eq_f (q := 8) (tgt := 37) C dX8_voids_5 (by decide) rfl (by decide) ?_
  refine r_iload_n (q := 9) C 2 dX8_voids_8 rfl rfl ?_
  refine r_iconst (q := 10) C (nI 1) dX8_voids_9 (by decide) rfl ?_
  refine r_icmp_lt (q := 13) (tgt := 37) C dX8_voids_10 (by decide) rfl (fun hc4 => ?_) (fun hc4 => ?_)
  · refine r_iconst (q := 38) C ((-1)) dX8_voids_37 (by decide) rfl ?_
    exact r_iret C rfl (by decide) (by decide) dX8_voids_38 ⟨rfl, ⟨ad, _, _, _, _, e0, hks.kept (fun t _ _ => ef1 t (by omega)), ((ef1 3 (by omega)).trans h3), ((ef1 4 (by omega)).trans h4), ((ef1 5 (by omega)).trans h5), ((ef1 6 (by omega)).trans h6), ((ef1 7 (by omega)).trans h7), ((ef1 8 (by omega)).trans h8), ((ef1 9 (by omega)).trans h9), ((ef1 10 (by omega)).trans h10), hsc.kept (fun t _ _ => ef1 t (by omega)), ((ef1 16 (by omega)).trans h16), ((ef1 17 (by omega)).trans h17)⟩, fun t ht => ef1 t (by omega)⟩
  · refine r_iload_n (q := 14) C 2 dX8_voids_13 rfl rfl ?_
    refine r_bipush (q := 16) C (nI 99) dX8_voids_14 (by decide) rfl ?_
    refine r_icmp_gt_t (tgt := 37) C dX8_voids_16 (by decide) (by rcases hy with q | q; exact absurd q hc4; exact q) ?_
    refine r_iconst (q := 38) C ((-1)) dX8_voids_37 (by decide) rfl ?_
    exact r_iret C rfl (by decide) (by decide) dX8_voids_38 ⟨rfl, ⟨ad, _, _, _, _, e0, hks.kept (fun t _ _ => ef1 t (by omega)), ((ef1 3 (by omega)).trans h3), ((ef1 4 (by omega)).trans h4), ((ef1 5 (by omega)).trans h5), ((ef1 6 (by omega)).trans h6), ((ef1 7 (by omega)).trans h7), ((ef1 8 (by omega)).trans h8), ((ef1 9 (by omega)).trans h9), ((ef1 10 (by omega)).trans h10), hsc.kept (fun t _ _ => ef1 t (by omega)), ((ef1 16 (by omega)).trans h16), ((ef1 17 (by omega)).trans h17)⟩, fun t ht => ef1 t (by omega)⟩

set_option maxHeartbeats 4000000 in
set_option maxRecDepth 20000 in
theorem y_vd_v {l : Launch} {g : cx_G} {w : wd_T} {c m0 tk gN rN tN : Nat} {fl : Int32} {fn wn : Nat → Nat} {gp by9 rD tD tV tT : Nat → Int32} (hM : MdAt g w m0 fl tk gN rN tN fn wn gp by9 rD tD tV tT) (hI : Iv9 c tk gN rN tN fn wn by9 tD tV tT) {k9 : Nat} (hk9 : k9 < tk) {rs : Nat} (hr1 : 1 ≤ rs) (hr2 : rs ≤ 99) (hz : ¬ fn (9 * k9 + 8) = 0) : Mt l g yX8_voids cX8_voids 4 (some .int) 5 0 0 w [.ref m0, .int (nI k9), .int (nI rs)] (fun v w' => v = some (.int (-1)) ∧ MdAt g w' m0 (nI 0) tk gN rN tN fn wn gp by9 rD tD tV tT ∧ Fm w w') := by
  refine mt_of RX8 "voids" rfl rfl (by decide) (Nat.le_of_ble_eq_true rfl) [(0, .ref m0), (1, .int (nI k9)), (2, .int (nI rs))] rfl ?_
  intro k hkl C hin
  subst hkl
  obtain ⟨ad, rS, fS, lv, fo, h0, hks, h3, h4, h5, h6, h7, h8, h9, h10, hsc, h16, h17⟩ := id hM
  obtain ⟨i0, i1, i2, i3, i4, i5, i6, i7, i8, i9, i10⟩ := id hI
  have b8 := i4 k9 hk9 8 (by decide)
  have m8 : fmx9 8 = 99 := rfl
  have b0 : fn (9 * k9) ≤ fmx9 0 ∨ 0 = 5 := i4 k9 hk9 0 (by decide)
  have m00 : fmx9 0 = 999 := rfl
  have b6 := i4 k9 hk9 6 (by decide)
  have m6 : fmx9 6 = 8000000000 := rfl
  refine r_aload_n (q := 1) C 0 dX8_voids_0 rfl rfl ?_
  refine r_iload_n (q := 2) C 1 dX8_voids_1 rfl rfl ?_
  refine r_callV (q := 5) (t := 0) (As := [.int (nI k9)]) (st := []) C koX8 h0 (m_ist_y h0 (by omega) hk9) q847 q844 q846 qp25 q9 rfl ⟨by decide, by decide⟩ (show (parseMethodDescriptor yX8_isTicket.desc).map (fun d => d.parameters.length) = some 1 by decide +kernel) (by decide) (by decide) (by decide) (by decide) (Nat.le_of_ble_eq_true rfl) rfl dX8_voids_2 rfl ?_
  rintro v9 w2 ⟨rfl, e0, ef1⟩
  show V g k 4 w2 0 0 (kQ g k (fun v w' => v = some (.int (-1)) ∧ MdAt g w' m0 (nI 0) tk gN rN tN fn wn gp by9 rD tD tV tT ∧ Fm w w') 0 0) 5 [(0, .ref m0), (1, .int (nI k9)), (2, .int (nI rs))] [.int (nI 1)]
  refine r_if_eq_f (q := 8) (tgt := 37) C dX8_voids_5 (by decide) rfl (by decide) ?_
  refine r_iload_n (q := 9) C 2 dX8_voids_8 rfl rfl ?_
  refine r_iconst (q := 10) C (nI 1) dX8_voids_9 (by decide) rfl ?_
  refine r_icmp_lt_f (q := 13) (tgt := 37) C dX8_voids_10 (by decide) rfl (fun z => absurd ((nI_ltI (a := rs) (b := 1) (by omega) (by omega)).mp z) (by omega)) ?_
  refine r_iload_n (q := 14) C 2 dX8_voids_13 rfl rfl ?_
  refine r_bipush (q := 16) C (nI 99) dX8_voids_14 (by decide) rfl ?_
  refine r_icmp_gt_f (q := 19) (tgt := 37) C dX8_voids_16 (by decide) rfl (fun z => absurd ((nI_ltI (a := 99) (b := rs) (by omega) (by omega)).mp z) (by omega)) ?_
  refine r_aload_n (q := 20) C 0 dX8_voids_19 rfl rfl ?_
  refine r_iload_n (q := 21) C 1 dX8_voids_20 rfl rfl ?_
  refine r_callV (q := 24) (t := 0) (As := [.int (nI k9)]) (st := []) C koX8 e0 (m_isv_y e0 ((ef1 6 (by omega)).trans h6) (by omega) (by omega) hz) q851 q848 q850 qp26 q9 rfl ⟨by decide, by decide⟩ (show (parseMethodDescriptor yX8_isVoid.desc).map (fun d => d.parameters.length) = some 1 by decide +kernel) (by decide) (by decide) (by decide) (by decide) (Nat.le_of_ble_eq_true rfl) rfl dX8_voids_21 rfl ?_
  rintro v9 w4 ⟨rfl, rfl⟩
  show V g k 4 w2 0 0 (kQ g k (fun v w' => v = some (.int (-1)) ∧ MdAt g w' m0 (nI 0) tk gN rN tN fn wn gp by9 rD tD tV tT ∧ Fm w w') 0 0) 24 [(0, .ref m0), (1, .int (nI k9)), (2, .int (nI rs))] [.int (nI 1)]
  refine r_if_ne_t (tgt := 37) C dX8_voids_24 (by decide) (by decide) ?_
  refine r_iconst (q := 38) C ((-1)) dX8_voids_37 (by decide) rfl ?_
  exact r_iret C rfl (by decide) (by decide) dX8_voids_38 ⟨rfl, ⟨ad, _, _, _, _, e0, hks.kept (fun t _ _ => ef1 t (by omega)), ((ef1 3 (by omega)).trans h3), ((ef1 4 (by omega)).trans h4), ((ef1 5 (by omega)).trans h5), ((ef1 6 (by omega)).trans h6), ((ef1 7 (by omega)).trans h7), ((ef1 8 (by omega)).trans h8), ((ef1 9 (by omega)).trans h9), ((ef1 10 (by omega)).trans h10), hsc.kept (fun t _ _ => ef1 t (by omega)), ((ef1 16 (by omega)).trans h16), ((ef1 17 (by omega)).trans h17)⟩, fun t ht => ef1 t (by omega)⟩

set_option maxHeartbeats 4000000 in
set_option maxRecDepth 20000 in
theorem y_vd_y {l : Launch} {g : cx_G} {w : wd_T} {c m0 tk gN rN tN : Nat} {fl : Int32} {fn wn : Nat → Nat} {gp by9 rD tD tV tT : Nat → Int32} (hM : MdAt g w m0 fl tk gN rN tN fn wn gp by9 rD tD tV tT) (hI : Iv9 c tk gN rN tN fn wn by9 tD tV tT) {k9 : Nat} (hk9 : k9 < tk) {rs : Nat} (hr1 : 1 ≤ rs) (hr2 : rs ≤ 99) (hz : fn (9 * k9 + 8) = 0) : Mt l g yX8_voids cX8_voids 4 (some .int) 5 0 0 w [.ref m0, .int (nI k9), .int (nI rs)] (fun v w' => v = some (.int (nI rN)) ∧ MdAt g w' m0 (nI 0) tk gN (rN + 1) tN (upN fn (9 * k9 + 8) rs) wn gp (apR by9 rN (vdR (fn (9 * k9)) rs)) (upd rD rN (nI (upN fn (9 * k9 + 8) rs (9 * k9 + 6) / 86400))) tD tV tT ∧ Fm w w') := by
  refine mt_of RX8 "voids" rfl rfl (by decide) (Nat.le_of_ble_eq_true rfl) [(0, .ref m0), (1, .int (nI k9)), (2, .int (nI rs))] rfl ?_
  intro k hkl C hin
  subst hkl
  obtain ⟨ad, rS, fS, lv, fo, h0, hks, h3, h4, h5, h6, h7, h8, h9, h10, hsc, h16, h17⟩ := id hM
  obtain ⟨i0, i1, i2, i3, i4, i5, i6, i7, i8, i9, i10⟩ := id hI
  have b8 := i4 k9 hk9 8 (by decide)
  have m8 : fmx9 8 = 99 := rfl
  have b0 : fn (9 * k9) ≤ fmx9 0 ∨ 0 = 5 := i4 k9 hk9 0 (by decide)
  have m00 : fmx9 0 = 999 := rfl
  have b6 := i4 k9 hk9 6 (by decide)
  have m6 : fmx9 6 = 8000000000 := rfl
  refine r_aload_n (q := 1) C 0 dX8_voids_0 rfl rfl ?_
  refine r_iload_n (q := 2) C 1 dX8_voids_1 rfl rfl ?_
  refine r_callV (q := 5) (t := 0) (As := [.int (nI k9)]) (st := []) C koX8 h0 (m_ist_y h0 (by omega) hk9) q847 q844 q846 qp25 q9 rfl ⟨by decide, by decide⟩ (show (parseMethodDescriptor yX8_isTicket.desc).map (fun d => d.parameters.length) = some 1 by decide +kernel) (by decide) (by decide) (by decide) (by decide) (Nat.le_of_ble_eq_true rfl) rfl dX8_voids_2 rfl ?_
  rintro v9 w2 ⟨rfl, e0, ef1⟩
  show V g k 4 w2 0 0 (kQ g k (fun v w' => v = some (.int (nI rN)) ∧ MdAt g w' m0 (nI 0) tk gN (rN + 1) tN (upN fn (9 * k9 + 8) rs) wn gp (apR by9 rN (vdR (fn (9 * k9)) rs)) (upd rD rN (nI (upN fn (9 * k9 + 8) rs (9 * k9 + 6) / 86400))) tD tV tT ∧ Fm w w') 0 0) 5 [(0, .ref m0), (1, .int (nI k9)), (2, .int (nI rs))] [.int (nI 1)]
  refine r_if_eq_f (q := 8) (tgt := 37) C dX8_voids_5 (by decide) rfl (by decide) ?_
  refine r_iload_n (q := 9) C 2 dX8_voids_8 rfl rfl ?_
  refine r_iconst (q := 10) C (nI 1) dX8_voids_9 (by decide) rfl ?_
  refine r_icmp_lt_f (q := 13) (tgt := 37) C dX8_voids_10 (by decide) rfl (fun z => absurd ((nI_ltI (a := rs) (b := 1) (by omega) (by omega)).mp z) (by omega)) ?_
  refine r_iload_n (q := 14) C 2 dX8_voids_13 rfl rfl ?_
  refine r_bipush (q := 16) C (nI 99) dX8_voids_14 (by decide) rfl ?_
  refine r_icmp_gt_f (q := 19) (tgt := 37) C dX8_voids_16 (by decide) rfl (fun z => absurd ((nI_ltI (a := 99) (b := rs) (by omega) (by omega)).mp z) (by omega)) ?_
  refine r_aload_n (q := 20) C 0 dX8_voids_19 rfl rfl ?_
  refine r_iload_n (q := 21) C 1 dX8_voids_20 rfl rfl ?_
  refine r_callV (q := 24) (t := 0) (As := [.int (nI k9)]) (st := []) C koX8 e0 (m_isv_n e0 ((ef1 6 (by omega)).trans h6) (by omega) (by omega) hz) q851 q848 q850 qp26 q9 rfl ⟨by decide, by decide⟩ (show (parseMethodDescriptor yX8_isVoid.desc).map (fun d => d.parameters.length) = some 1 by decide +kernel) (by decide) (by decide) (by decide) (by decide) (Nat.le_of_ble_eq_true rfl) rfl dX8_voids_21 rfl ?_
  rintro v9 w4 ⟨rfl, rfl⟩
  show V g k 4 w2 0 0 (kQ g k (fun v w' => v = some (.int (nI rN)) ∧ MdAt g w' m0 (nI 0) tk gN (rN + 1) tN (upN fn (9 * k9 + 8) rs) wn gp (apR by9 rN (vdR (fn (9 * k9)) rs)) (upd rD rN (nI (upN fn (9 * k9 + 8) rs (9 * k9 + 6) / 86400))) tD tV tT ∧ Fm w w') 0 0) 24 [(0, .ref m0), (1, .int (nI k9)), (2, .int (nI rs))] [.int (nI 0)]
  refine r_if_ne_f (q := 27) (tgt := 37) C dX8_voids_24 (by decide) rfl (by decide) ?_
  refine r_aload_n (q := 28) C 0 dX8_voids_27 rfl rfl ?_
  refine r_get (q := 31) (t := 0) C koX8 e0 14 (by decide) q714 rfl rfl dX8_voids_28 rfl ?_
  refine r_sipush (q := 34) C (nI 200) dX8_voids_31 (by decide) rfl ?_
  refine r_icmp_ne_t (tgt := 39) C dX8_voids_34 (by decide) (fun z => absurd ((nI_eq (a := rN) (b := 200) (by omega) (by omega)).mp z) (by omega)) ?_
  refine r_aload_n (q := 40) C 0 dX8_voids_39 rfl rfl ?_
  refine r_get (q := 43) (t := 0) C koX8 e0 6 (by decide) q706 rfl rfl dX8_voids_40 rfl ?_
  refine r_bipush (q := 45) C (nI 9) dX8_voids_43 (by decide) rfl ?_
  refine r_iload_n (q := 46) C 1 dX8_voids_45 rfl rfl ?_
  refine r_imul (q := 47) C dX8_voids_46 rfl ?_
  refine r_ti (show ((nI 9) * (nI k9) : Int32) = nI (9 * k9) from pk_mul 9 k9) ?_
  refine r_bipush (q := 49) C (nI 8) dX8_voids_47 (by decide) rfl ?_
  refine r_iadd (q := 50) C dX8_voids_49 rfl ?_
  refine r_ti (show ((nI (9 * k9)) + (nI 8) : Int32) = nI (9 * k9 + 8) from nI_add (9 * k9) 8) ?_
  refine r_iload_n (q := 51) C 2 dX8_voids_50 rfl rfl ?_
  refine r_i2l (q := 52) C dX8_voids_51 rfl ?_
  refine r_tl (show ((nI rs).toInt64 : Int64) = lN rs from nI_l (by omega)) ?_
  refine r_last (q := 53) (t := 6) (w' := wd_set w2 6 (ad 6) (aL g 1800 (vp_updL (fun p => lN (fn p)) (9 * k9 + 8) (lN rs)))) C ((ef1 6 (by omega)).trans h6) (9 * k9 + 8) rfl (by omega) (by decide) dX8_voids_52 rfl rfl ?_
  generalize hy5 : (wd_set w2 6 (ad 6) (aL g 1800 (vp_updL (fun p => lN (fn p)) (9 * k9 + 8) (lN rs)))) = y5w
  have y56 : y5w 6 = some (ad 6, aL g 1800 (fun p => lN (upN fn (9 * k9 + 8) rs p))) := by rw [← hy5]; rw [← upd_fn]; exact wd_eq
  have y53 : y5w 3 = some (ad 3, aI g 1100 tD) := by rw [← hy5]; exact ((wd_ne (by decide)).trans ((ef1 3 (by omega)).trans h3))
  have y54 : y5w 4 = some (ad 4, aI g 1100 tV) := by rw [← hy5]; exact ((wd_ne (by decide)).trans ((ef1 4 (by omega)).trans h4))
  have y55 : y5w 5 = some (ad 5, aI g 1100 tT) := by rw [← hy5]; exact ((wd_ne (by decide)).trans ((ef1 5 (by omega)).trans h5))
  have y57 : y5w 7 = some (ad 7, aI g 1600 (fun p => nI (wn p))) := by rw [← hy5]; exact ((wd_ne (by decide)).trans ((ef1 7 (by omega)).trans h7))
  have y58 : y5w 8 = some (ad 8, aI g 400 gp) := by rw [← hy5]; exact ((wd_ne (by decide)).trans ((ef1 8 (by omega)).trans h8))
  have y59 : y5w 9 = some (ad 9, aB g 14600 by9) := by rw [← hy5]; exact ((wd_ne (by decide)).trans ((ef1 9 (by omega)).trans h9))
  have y510 : y5w 10 = some (ad 10, aI g 200 rD) := by rw [← hy5]; exact ((wd_ne (by decide)).trans ((ef1 10 (by omega)).trans h10))
  have y516 : y5w 16 = some (ad 16, aB g 6400 lv) := by rw [← hy5]; exact ((wd_ne (by decide)).trans ((ef1 16 (by omega)).trans h16))
  have y517 : y5w 17 = some (ad 17, aB g 120 fo) := by rw [← hy5]; exact ((wd_ne (by decide)).trans ((ef1 17 (by omega)).trans h17))
  have y50 : y5w 0 = some (m0, mo ad (nI tN) (nI tk) (nI (tk + gN)) (nI gN) (nI rN) (nI 0) rS fS) := by rw [← hy5]; exact ((wd_ne (by decide)).trans e0)
  have kf : ∀ t, t ≠ 0 → t ≠ 6 → y5w t = w t := fun t a b => by rw [← hy5]; exact (wd_ne b).trans (ef1 t a)
  refine r_aload_n (q := 54) C 0 dX8_voids_53 rfl rfl ?_
  refine r_aload_n (q := 55) C 0 dX8_voids_54 rfl rfl ?_
  refine r_iconst (q := 56) C (nI 3) dX8_voids_55 (by decide) rfl ?_
  refine r_iload_n (q := 57) C 1 dX8_voids_56 rfl rfl ?_
  refine r_callV (q := 60) (t := 0) (As := [.int (nI 3), .int (nI k9)]) (st := [.ref m0]) C koX8 y50 (m_open (fn := upN fn (9 * k9 + 8) rs) y50 y56 y59 (by omega) (by decide) (by omega) (by rw [upN_ne (by omega)]; omega)) q812 q809 q811 qp18 q9 rfl ⟨by decide, by decide⟩ (show (parseMethodDescriptor yX8_open.desc).map (fun d => d.parameters.length) = some 2 by decide +kernel) (by decide) (by decide) (by decide) (by decide) (Nat.le_of_ble_eq_true rfl) rfl dX8_voids_57 rfl ?_
  rintro v9 w8 ⟨rfl, v69, of7⟩
  show V g k 4 w8 0 0 (kQ g k (fun v w' => v = some (.int (nI rN)) ∧ MdAt g w' m0 (nI 0) tk gN (rN + 1) tN (upN fn (9 * k9 + 8) rs) wn gp (apR by9 rN (vdR (fn (9 * k9)) rs)) (upd rD rN (nI (upN fn (9 * k9 + 8) rs (9 * k9 + 6) / 86400))) tD tV tT ∧ Fm w w') 0 0) 60 [(0, .ref m0), (1, .int (nI k9)), (2, .int (nI rs))] [.int (nI (73 * rN + 1 + 4)), .ref m0]
  refine r_ti (show (nI (73 * rN + 1 + 4) : Int32) = nI (73 * rN + 5) from by rw [show 73 * rN + 1 + 4 = 73 * rN + 5 by omega]) ?_
  refine r_iload_n (q := 61) C 2 dX8_voids_60 rfl rfl ?_
  refine r_i2l (q := 62) C dX8_voids_61 rfl ?_
  refine r_tl (show ((nI rs).toInt64 : Int64) = lN rs from nI_l (by omega)) ?_
  refine r_iconst (q := 63) C (nI 4) dX8_voids_62 (by decide) rfl ?_
  refine r_callV (q := 66) (t := 0) (As := [.int (nI (73 * rN + 5)), .long (lN rs), .int (nI 4)]) (st := []) C koX8 ((of7 0 (by omega)).trans y50) (m_write ((of7 0 (by omega)).trans y50) v69 (x := rs) (a := 73 * rN + 5) (wd := 4) (by omega) (by decide) (by decide) (by omega)) q816 q813 q815 qp19 q9 rfl ⟨by decide, by decide⟩ (show (parseMethodDescriptor yX8_write.desc).map (fun d => d.parameters.length) = some 3 by decide +kernel) (by decide) (by decide) (by decide) (by decide) (Nat.le_of_ble_eq_true rfl) rfl dX8_voids_63 rfl ?_
  rintro v9 w12 ⟨rfl, v109', of11⟩
  show V g k 4 w12 0 0 (kQ g k (fun v w' => v = some (.int (nI rN)) ∧ MdAt g w' m0 (nI 0) tk gN (rN + 1) tN (upN fn (9 * k9 + 8) rs) wn gp (apR by9 rN (vdR (fn (9 * k9)) rs)) (upd rD rN (nI (upN fn (9 * k9 + 8) rs (9 * k9 + 6) / 86400))) tD tV tT ∧ Fm w w') 0 0) 66 [(0, .ref m0), (1, .int (nI k9)), (2, .int (nI rs))] [.int (nI (73 * rN + 5 + 4))]
  have v109 : w12 9 = some (ad 9, aB g 14600 (ovF by9 (73 * rN) (wrF (wrF (wrF (fun _ => 0) 0 1 1 (lN 3)) 1 4 4 (lN ((upN fn (9 * k9 + 8) rs) (9 * k9)))) 5 4 4 (lN rs)))) := by rw [← wr_ov (by decide)]; exact v109'
  refine r_ti (show (nI (73 * rN + 5 + 4) : Int32) = nI (73 * rN + 9) from by rw [show 73 * rN + 5 + 4 = 73 * rN + 9 by omega]) ?_
  refine r_istore_n (q := 67) (lv' := [(3, .int (nI (73 * rN + 9))), (0, .ref m0), (1, .int (nI k9)), (2, .int (nI rs))]) C dX8_voids_66 (by decide) rfl rfl ?_
  refine r_aload_n (q := 68) C 1 dX8_voids_67 rfl rfl ?_
  refine r_iload_n (q := 69) C 2 dX8_voids_68 rfl rfl ?_
  refine r_callV (q := 72) (t := 0) (As := [.int (nI k9)]) (st := []) C koX8 ((of11 0 (by omega)).trans ((of7 0 (by omega)).trans y50)) (m_close (fn := upN fn (9 * k9 + 8) rs) (by9 := by9) (fb := wrF (wrF (wrF (fun _ => 0) 0 1 1 (lN 3)) 1 4 4 (lN ((upN fn (9 * k9 + 8) rs) (9 * k9)))) 5 4 4 (lN rs)) (rD := rD) (hks.kept (fun t _ _ => (of11 t (by omega)).trans ((of7 t (by omega)).trans (kf t (by omega) (by omega))))) (hsc.kept (fun t _ _ => (of11 t (by omega)).trans ((of7 t (by omega)).trans (kf t (by omega) (by omega))))) ((of11 0 (by omega)).trans ((of7 0 (by omega)).trans y50)) ((of11 6 (by omega)).trans ((of7 6 (by omega)).trans y56)) v109 ((of11 10 (by omega)).trans ((of7 10 (by omega)).trans y510)) (by omega) (by omega) (by rw [upN_ne (by omega)]; omega)) q820 q817 q819 qp20 q9 rfl ⟨by decide, by decide⟩ (show (parseMethodDescriptor yX8_close.desc).map (fun d => d.parameters.length) = some 1 by decide +kernel) (by decide) (by decide) (by decide) (by decide) (Nat.le_of_ble_eq_true rfl) rfl dX8_voids_69 rfl ?_
  rintro v9 v14w ⟨rfl, v14s, v140, v149, v1410, v14f⟩
  show V g k 4 v14w 0 0 (kQ g k (fun v w' => v = some (.int (nI rN)) ∧ MdAt g w' m0 (nI 0) tk gN (rN + 1) tN (upN fn (9 * k9 + 8) rs) wn gp (apR by9 rN (vdR (fn (9 * k9)) rs)) (upd rD rN (nI (upN fn (9 * k9 + 8) rs (9 * k9 + 6) / 86400))) tD tV tT ∧ Fm w w') 0 0) 72 [(3, .int (nI (73 * rN + 9))), (0, .ref m0), (1, .int (nI k9)), (2, .int (nI rs))] [.int (nI rN)]
  exact r_iret C rfl (by decide) (by decide) dX8_voids_72 ⟨rfl, ⟨ad, _, _, _, _, v140, hks.kept (fun t _ _ => (v14f t (by omega) (by omega)).trans ((of11 t (by omega)).trans ((of7 t (by omega)).trans (kf t (by omega) (by omega))))), ((v14f 3 (by decide) (by decide)).trans ((of11 3 (by omega)).trans ((of7 3 (by omega)).trans y53))), ((v14f 4 (by decide) (by decide)).trans ((of11 4 (by omega)).trans ((of7 4 (by omega)).trans y54))), ((v14f 5 (by decide) (by decide)).trans ((of11 5 (by omega)).trans ((of7 5 (by omega)).trans y55))), ((v14f 6 (by decide) (by decide)).trans ((of11 6 (by omega)).trans ((of7 6 (by omega)).trans y56))), ((v14f 7 (by decide) (by decide)).trans ((of11 7 (by omega)).trans ((of7 7 (by omega)).trans y57))), ((v14f 8 (by decide) (by decide)).trans ((of11 8 (by omega)).trans ((of7 8 (by omega)).trans y58))), (by have := v149; rw [upN_ne (show 9 * k9 ≠ 9 * k9 + 8 by omega)] at this; exact this), v1410, v14s, ((v14f 16 (by decide) (by decide)).trans ((of11 16 (by omega)).trans ((of7 16 (by omega)).trans y516))), ((v14f 17 (by decide) (by decide)).trans ((of11 17 (by omega)).trans ((of7 17 (by omega)).trans y517)))⟩, fun t ht => (v14f t (by omega) (by omega)).trans ((of11 t (by omega)).trans ((of7 t (by omega)).trans (kf t (by omega) (by omega))))⟩
