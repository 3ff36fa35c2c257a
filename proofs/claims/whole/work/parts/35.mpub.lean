/-! the reference: the methods that are called, first -/
theorem in_i {y : Int32} {b : Nat} (hb : b < 1000) (hy : y < 0 ∨ nI (b + 1) ≤ y) : ¬ ∃ n, n ≤ b ∧ y.toInt64 = lN n := by
  intro ⟨n, hn, e⟩
  have e1 : y.toInt64 = (nI n).toInt64 := by rw [e, nI_l (by omega)]
  have e2 : y = nI n := (fa_wide_eq y (nI n)).mp e1
  subst e2
  rcases hy with z | z
  · exact nI_pos (n := n) (by omega) z
  · have := (nI_leI (a := b + 1) (b := n) (by omega) (by omega)).mp z
    omega
theorem upd_wn {wn : Nat → Nat} {a b : Nat} : upd (fun p => nI (wn p)) a (nI b) = fun p => nI (upN wn a b p) := by
  funext p
  unfold upd upN
  by_cases z : p = a
  · rw [if_pos z, if_pos z]
  · rw [if_neg z, if_neg z]
theorem upd_fn {fn : Nat → Nat} {a b : Nat} : vp_updL (fun p => lN (fn p)) a (lN b) = fun p => lN (upN fn a b p) := by
  funext p
  unfold vp_updL upN
  by_cases z : p = a
  · rw [if_pos z, if_pos z]
  · rw [if_neg z, if_neg z]
set_option maxHeartbeats 4000000 in
set_option maxRecDepth 20000 in
theorem y_at_n {l : Launch} {g : cx_G} {w : wd_T} {c m0 tk gN rN tN : Nat} {fl : Int32} {fn wn : Nat → Nat} {gp by9 rD tD tV tT : Nat → Int32} (hM : MdAt g w m0 fl tk gN rN tN fn wn gp by9 rD tD tV tT) (hI : Iv9 c tk gN rN tN fn wn by9 tD tV tT) {x : Int32} (hx : x < 0 ∨ nI tk ≤ x) {y : Int32} : Mt l g yX8_at cX8_at 3 (some .long) 1 0 0 w [.ref m0, .int x, .int y] (fun v w' => v = some (.long (-1)) ∧ MdAt g w' m0 (nI 0) tk gN rN tN fn wn gp by9 rD tD tV tT ∧ Fm w w') := by
  refine mt_of RX8 "at" rfl rfl (by decide) (Nat.le_of_ble_eq_true rfl) [(0, .ref m0), (1, .int x), (2, .int y)] rfl ?_
  intro k hkl C hin
  subst hkl
  obtain ⟨ad, rS, fS, lv, fo, h0, hks, h3, h4, h5, h6, h7, h8, h9, h10, hsc, h16, h17⟩ := id hM
  obtain ⟨i0, i1, i2, i3, i4, i5, i6, i7, i8, i9, i10⟩ := id hI
  refine r_aload_n (q := 1) C 0 dX8_at_0 rfl rfl ?_
  refine r_iload_n (q := 2) C 1 dX8_at_1 rfl rfl ?_
  refine r_callV (q := 5) (t := 0) (As := [.int x]) (st := []) C koX8 h0 (m_ist_n h0 (by omega) hx) q847 q844 q846 qp25 q9 rfl ⟨by decide, by decide⟩ (show (parseMethodDescriptor yX8_isTicket.desc).map (fun d => d.parameters.length) = some 1 by decide +kernel) (by decide) (by decide) (by decide) (by decide) (Nat.le_of_ble_eq_true rfl) rfl dX8_at_2 rfl ?_
  rintro v9 w2 ⟨rfl, e0, ef1⟩
  show V g k 3 w2 0 0 (kQ g k (fun v w' => v = some (.long (-1)) ∧ MdAt g w' m0 (nI 0) tk gN rN tN fn wn gp by9 rD tD tV tT ∧ Fm w w') 0 0) 5 [(0, .ref m0), (1, .int x), (2, .int y)] [.int (nI 0)]
  refine r_if_eq_t (tgt := 18) C dX8_at_5 (by decide) (by decide) ?_
  refine r_ldc2 (q := 21) (v := (-1)) C dX8_at_18 q800 rfl ?_
  exact r_lret C rfl (by decide) (by decide) dX8_at_21 ⟨rfl, ⟨ad, _, _, _, _, e0, hks.kept (fun t _ _ => ef1 t (by omega)), ((ef1 3 (by omega)).trans h3), ((ef1 4 (by omega)).trans h4), ((ef1 5 (by omega)).trans h5), ((ef1 6 (by omega)).trans h6), ((ef1 7 (by omega)).trans h7), ((ef1 8 (by omega)).trans h8), ((ef1 9 (by omega)).trans h9), ((ef1 10 (by omega)).trans h10), hsc.kept (fun t _ _ => ef1 t (by omega)), ((ef1 16 (by omega)).trans h16), ((ef1 17 (by omega)).trans h17)⟩, fun t ht => ef1 t (by omega)⟩

set_option maxHeartbeats 4000000 in
set_option maxRecDepth 20000 in
theorem y_at_f {l : Launch} {g : cx_G} {w : wd_T} {c m0 tk gN rN tN : Nat} {fl : Int32} {fn wn : Nat → Nat} {gp by9 rD tD tV tT : Nat → Int32} (hM : MdAt g w m0 fl tk gN rN tN fn wn gp by9 rD tD tV tT) (hI : Iv9 c tk gN rN tN fn wn by9 tD tV tT) {k9 : Nat} (hk9 : k9 < tk) {y : Int32} (hy : y < 0 ∨ nI 9 ≤ y) : Mt l g yX8_at cX8_at 3 (some .long) 1 0 0 w [.ref m0, .int (nI k9), .int y] (fun v w' => v = some (.long (-1)) ∧ MdAt g w' m0 (nI 0) tk gN rN tN fn wn gp by9 rD tD tV tT ∧ Fm w w') := by
  refine mt_of RX8 "at" rfl rfl (by decide) (Nat.le_of_ble_eq_true rfl) [(0, .ref m0), (1, .int (nI k9)), (2, .int y)] rfl ?_
  intro k hkl C hin
  subst hkl
  obtain ⟨ad, rS, fS, lv, fo, h0, hks, h3, h4, h5, h6, h7, h8, h9, h10, hsc, h16, h17⟩ := id hM
  obtain ⟨i0, i1, i2, i3, i4, i5, i6, i7, i8, i9, i10⟩ := id hI
  refine r_aload_n (q := 1) C 0 dX8_at_0 rfl rfl ?_
  refine r_iload_n (q := 2) C 1 dX8_at_1 rfl rfl ?_
  refine r_callV (q := 5) (t := 0) (As := [.int (nI k9)]) (st := []) C koX8 h0 (m_ist_y h0 (by omega) hk9) q847 q844 q846 qp25 q9 rfl ⟨by decide, by decide⟩ (show (parseMethodDescriptor yX8_isTicket.desc).map (fun d => d.parameters.length) = some 1 by decide +kernel) (by decide) (by decide) (by decide) (by decide) (Nat.le_of_ble_eq_true rfl) rfl dX8_at_2 rfl ?_
  rintro v9 w2 ⟨rfl, e0, ef1⟩
  show V g k 3 w2 0 0 (kQ g k (fun v w' => v = some (.long (-1)) ∧ MdAt g w' m0 (nI 0) tk gN rN tN fn wn gp by9 rD tD tV tT ∧ Fm w w') 0 0) 5 [(0, .ref m0), (1, .int (nI k9)), (2, .int y)] [.int (nI 1)]
  refine r_if_eq_f (q := 8) (tgt := 18) C dX8_at_5 (by decide) rfl (by decide) ?_
  refine r_iload_n (q := 9) C 2 dX8_at_8 rfl rfl ?_
  refine r_if_lt (q := 12) (tgt := 18) C dX8_at_9 (by decide) rfl (fun hc4 => ?_) (fun hc4 => ?_)
  · refine r_ldc2 (q := 21) (v := (-1)) C dX8_at_18 q800 rfl ?_
    exact r_lret C rfl (by decide) (by decide) dX8_at_21 ⟨rfl, ⟨ad, _, _, _, _, e0, hks.kept (fun t _ _ => ef1 t (by omega)), ((ef1 3 (by omega)).trans h3), ((ef1 4 (by omega)).trans h4), ((ef1 5 (by omega)).trans h5), ((ef1 6 (by omega)).trans h6), ((ef1 7 (by omega)).trans h7), ((ef1 8 (by omega)).trans h8), ((ef1 9 (by omega)).trans h9), ((ef1 10 (by omega)).trans h10), hsc.kept (fun t _ _ => ef1 t (by omega)), ((ef1 16 (by omega)).trans h16), ((ef1 17 (by omega)).trans h17)⟩, fun t ht => ef1 t (by omega)⟩
  · refine r_iload_n (q := 13) C 2 dX8_at_12 rfl rfl ?_
    refine r_bipush (q := 15) C (nI 8) dX8_at_13 (by decide) rfl ?_
    refine r_icmp_le_f (q := 18) (tgt := 22) C dX8_at_15 (by decide) rfl (by rcases hy with z | z; exact absurd z hc4; exact fun zz => absurd (Int32.le_trans z zz) (by decide)) ?_
    refine r_ldc2 (q := 21) (v := (-1)) C dX8_at_18 q800 rfl ?_
    exact r_lret C rfl (by decide) (by decide) dX8_at_21 ⟨rfl, ⟨ad, _, _, _, _, e0, hks.kept (fun t _ _ => ef1 t (by omega)), ((ef1 3 (by omega)).trans h3), ((ef1 4 (by omega)).trans h4), ((ef1 5 (by omega)).trans h5), ((ef1 6 (by omega)).trans h6), ((ef1 7 (by omega)).trans h7), ((ef1 8 (by omega)).trans h8), ((ef1 9 (by omega)).trans h9), ((ef1 10 (by omega)).trans h10), hsc.kept (fun t _ _ => ef1 t (by omega)), ((ef1 16 (by omega)).trans h16), ((ef1 17 (by omega)).trans h17)⟩, fun t ht => ef1 t (by omega)⟩

set_option maxHeartbeats 4000000 in
set_option maxRecDepth 20000 in
theorem y_at_y {l : Launch} {g : cx_G} {w : wd_T} {c m0 tk gN rN tN : Nat} {fl : Int32} {fn wn : Nat → Nat} {gp by9 rD tD tV tT : Nat → Int32} (hM : MdAt g w m0 fl tk gN rN tN fn wn gp by9 rD tD tV tT) (hI : Iv9 c tk gN rN tN fn wn by9 tD tV tT) {k9 : Nat} (hk9 : k9 < tk) {i : Nat} (hi : i < 9) : Mt l g yX8_at cX8_at 3 (some .long) 1 0 0 w [.ref m0, .int (nI k9), .int (nI i)] (fun v w' => v = some (.long (lN (fv9 fn k9 i))) ∧ MdAt g w' m0 (nI 0) tk gN rN tN fn wn gp by9 rD tD tV tT ∧ Fm w w') := by
  refine mt_of RX8 "at" rfl rfl (by decide) (Nat.le_of_ble_eq_true rfl) [(0, .ref m0), (1, .int (nI k9)), (2, .int (nI i))] rfl ?_
  intro k hkl C hin
  subst hkl
  obtain ⟨ad, rS, fS, lv, fo, h0, hks, h3, h4, h5, h6, h7, h8, h9, h10, hsc, h16, h17⟩ := id hM
  obtain ⟨i0, i1, i2, i3, i4, i5, i6, i7, i8, i9, i10⟩ := id hI
  have n5 := i5 k9 hk9
  refine r_aload_n (q := 1) C 0 dX8_at_0 rfl rfl ?_
  refine r_iload_n (q := 2) C 1 dX8_at_1 rfl rfl ?_
  refine r_callV (q := 5) (t := 0) (As := [.int (nI k9)]) (st := []) C koX8 h0 (m_ist_y h0 (by omega) hk9) q847 q844 q846 qp25 q9 rfl ⟨by decide, by decide⟩ (show (parseMethodDescriptor yX8_isTicket.desc).map (fun d => d.parameters.length) = some 1 by decide +kernel) (by decide) (by decide) (by decide) (by decide) (Nat.le_of_ble_eq_true rfl) rfl dX8_at_2 rfl ?_
  rintro v9 w2 ⟨rfl, e0, ef1⟩
  show V g k 3 w2 0 0 (kQ g k (fun v w' => v = some (.long (lN (fv9 fn k9 i))) ∧ MdAt g w' m0 (nI 0) tk gN rN tN fn wn gp by9 rD tD tV tT ∧ Fm w w') 0 0) 5 [(0, .ref m0), (1, .int (nI k9)), (2, .int (nI i))] [.int (nI 1)]
  refine r_if_eq_f (q := 8) (tgt := 18) C dX8_at_5 (by decide) rfl (by decide) ?_
  refine r_iload_n (q := 9) C 2 dX8_at_8 rfl rfl ?_
  refine r_if_lt_f (q := 12) (tgt := 18) C dX8_at_9 (by decide) rfl (nI_pos (by omega)) ?_
  refine r_iload_n (q := 13) C 2 dX8_at_12 rfl rfl ?_
  refine r_bipush (q := 15) C (nI 8) dX8_at_13 (by decide) rfl ?_
  refine r_icmp_le_t (tgt := 22) C dX8_at_15 (by decide) ((nI_leI (a := i) (b := 8) (by omega) (by omega)).mpr (by omega)) ?_
  refine r_iload_n (q := 23) C 2 dX8_at_22 rfl rfl ?_
  refine r_iconst (q := 24) C (nI 5) dX8_at_23 (by decide) rfl ?_
  refine r_icmp_ne (q := 27) (tgt := 53) C dX8_at_24 (by decide) rfl (fun hc4 => ?_) (fun hc4 => ?_)
  · have hc4 : ¬ i = 5 := fun z => hc4 ((nI_eq (a := i) (b := 5) (by omega) (by omega)).mpr z)
    refine r_aload_n (q := 54) C 0 dX8_at_53 rfl rfl ?_
    refine r_get (q := 57) (t := 0) C koX8 e0 6 (by decide) q706 rfl rfl dX8_at_54 rfl ?_
    refine r_bipush (q := 59) C (nI 9) dX8_at_57 (by decide) rfl ?_
    refine r_iload_n (q := 60) C 1 dX8_at_59 rfl rfl ?_
    refine r_imul (q := 61) C dX8_at_60 rfl ?_
    refine r_ti (show ((nI 9) * (nI k9) : Int32) = nI (9 * k9) from pk_mul 9 k9) ?_
    refine r_iload_n (q := 62) C 2 dX8_at_61 rfl rfl ?_
    refine r_iadd (q := 63) C dX8_at_62 rfl ?_
    refine r_ti (show ((nI (9 * k9)) + (nI i) : Int32) = nI (9 * k9 + i) from nI_add (9 * k9) i) ?_
    refine r_lald (q := 64) (t := 6) C ((ef1 6 (by omega)).trans h6) (9 * k9 + i) rfl (by omega) (by decide) dX8_at_63 rfl ?_
    refine r_tl (show ((fun p => lN (fn p)) (9 * k9 + i) : Int64) = lN (fv9 fn k9 i) from by unfold fv9; rw [if_neg hc4]) ?_
    exact r_lret C rfl (by decide) (by decide) dX8_at_64 ⟨rfl, ⟨ad, _, _, _, _, e0, hks.kept (fun t _ _ => ef1 t (by omega)), ((ef1 3 (by omega)).trans h3), ((ef1 4 (by omega)).trans h4), ((ef1 5 (by omega)).trans h5), ((ef1 6 (by omega)).trans h6), ((ef1 7 (by omega)).trans h7), ((ef1 8 (by omega)).trans h8), ((ef1 9 (by omega)).trans h9), ((ef1 10 (by omega)).trans h10), hsc.kept (fun t _ _ => ef1 t (by omega)), ((ef1 16 (by omega)).trans h16), ((ef1 17 (by omega)).trans h17)⟩, fun t ht => ef1 t (by omega)⟩
  · have hc4 : i = 5 := (nI_eq (a := i) (b := 5) (by omega) (by omega)).mp hc4
    subst hc4
    refine r_aload_n (q := 28) C 0 dX8_at_27 rfl rfl ?_
    refine r_get (q := 31) (t := 0) C koX8 e0 6 (by decide) q706 rfl rfl dX8_at_28 rfl ?_
    refine r_bipush (q := 33) C (nI 9) dX8_at_31 (by decide) rfl ?_
    refine r_iload_n (q := 34) C 1 dX8_at_33 rfl rfl ?_
    refine r_imul (q := 35) C dX8_at_34 rfl ?_
    refine r_ti (show ((nI 9) * (nI k9) : Int32) = nI (9 * k9) from pk_mul 9 k9) ?_
    refine r_iconst (q := 36) C (nI 3) dX8_at_35 (by decide) rfl ?_
    refine r_iadd (q := 37) C dX8_at_36 rfl ?_
    refine r_ti (show ((nI (9 * k9)) + (nI 3) : Int32) = nI (9 * k9 + 3) from nI_add (9 * k9) 3) ?_
    refine r_lald (q := 38) (t := 6) C ((ef1 6 (by omega)).trans h6) (9 * k9 + 3) rfl (by omega) (by decide) dX8_at_37 rfl ?_
    refine r_tl (show ((fun p => lN (fn p)) (9 * k9 + 3) : Int64) = lN (fn (9 * k9 + 3)) from rfl) ?_
    refine r_aload_n (q := 39) C 0 dX8_at_38 rfl rfl ?_
    refine r_get (q := 42) (t := 0) C koX8 e0 6 (by decide) q706 rfl rfl dX8_at_39 rfl ?_
    refine r_bipush (q := 44) C (nI 9) dX8_at_42 (by decide) rfl ?_
    refine r_iload_n (q := 45) C 1 dX8_at_44 rfl rfl ?_
    refine r_imul (q := 46) C dX8_at_45 rfl ?_
    refine r_ti (show ((nI 9) * (nI k9) : Int32) = nI (9 * k9) from pk_mul 9 k9) ?_
    refine r_iconst (q := 47) C (nI 4) dX8_at_46 (by decide) rfl ?_
    refine r_iadd (q := 48) C dX8_at_47 rfl ?_
    refine r_ti (show ((nI (9 * k9)) + (nI 4) : Int32) = nI (9 * k9 + 4) from nI_add (9 * k9) 4) ?_
    refine r_lald (q := 49) (t := 6) C ((ef1 6 (by omega)).trans h6) (9 * k9 + 4) rfl (by omega) (by decide) dX8_at_48 rfl ?_
    refine r_tl (show ((fun p => lN (fn p)) (9 * k9 + 4) : Int64) = lN (fn (9 * k9 + 4)) from rfl) ?_
    refine r_lsub (q := 50) C dX8_at_49 rfl ?_
    refine r_tl (show ((lN (fn (9 * k9 + 3))) - (lN (fn (9 * k9 + 4))) : Int64) = lN (fn (9 * k9 + 3) - (fn (9 * k9 + 4))) from lN_sub (by omega)) ?_
    refine r_goto (tgt := 64) C dX8_at_50 (by decide) ?_
    exact r_lret C rfl (by decide) (by decide) dX8_at_64 ⟨rfl, ⟨ad, _, _, _, _, e0, hks.kept (fun t _ _ => ef1 t (by omega)), ((ef1 3 (by omega)).trans h3), ((ef1 4 (by omega)).trans h4), ((ef1 5 (by omega)).trans h5), ((ef1 6 (by omega)).trans h6), ((ef1 7 (by omega)).trans h7), ((ef1 8 (by omega)).trans h8), ((ef1 9 (by omega)).trans h9), ((ef1 10 (by omega)).trans h10), hsc.kept (fun t _ _ => ef1 t (by omega)), ((ef1 16 (by omega)).trans h16), ((ef1 17 (by omega)).trans h17)⟩, fun t ht => ef1 t (by omega)⟩

set_option maxHeartbeats 4000000 in
set_option maxRecDepth 20000 in
theorem y_num_n {l : Launch} {g : cx_G} {w : wd_T} {c m0 tk gN rN tN : Nat} {fl : Int32} {fn wn : Nat → Nat} {gp by9 rD tD tV tT : Nat → Int32} (hM : MdAt g w m0 fl tk gN rN tN fn wn gp by9 rD tD tV tT) (hI : Iv9 c tk gN rN tN fn wn by9 tD tV tT) {x : Int32} (hx : x < 0 ∨ nI tk ≤ x) : Mt l g yX8_number cX8_number 2 (some .int) 1 0 0 w [.ref m0, .int x] (fun v w' => v = some (.int (-1)) ∧ MdAt g w' m0 (nI 0) tk gN rN tN fn wn gp by9 rD tD tV tT ∧ Fm w w') := by
  refine mt_of RX8 "number" rfl rfl (by decide) (Nat.le_of_ble_eq_true rfl) [(0, .ref m0), (1, .int x)] rfl ?_
  intro k hkl C hin
  subst hkl
  obtain ⟨ad, rS, fS, lv, fo, h0, hks, h3, h4, h5, h6, h7, h8, h9, h10, hsc, h16, h17⟩ := id hM
  obtain ⟨i0, i1, i2, i3, i4, i5, i6, i7, i8, i9, i10⟩ := id hI
  refine r_aload_n (q := 1) C 0 dX8_number_0 rfl rfl ?_
  refine r_iload_n (q := 2) C 1 dX8_number_1 rfl rfl ?_
  refine r_callV (q := 5) (t := 0) (As := [.int x]) (st := []) C koX8 h0 (m_ist_n h0 (by omega) hx) q847 q844 q846 qp25 q9 rfl ⟨by decide, by decide⟩ (show (parseMethodDescriptor yX8_isTicket.desc).map (fun d => d.parameters.length) = some 1 by decide +kernel) (by decide) (by decide) (by decide) (by decide) (Nat.le_of_ble_eq_true rfl) rfl dX8_number_2 rfl ?_
  rintro v9 w2 ⟨rfl, e0, ef1⟩
  show V g k 2 w2 0 0 (kQ g k (fun v w' => v = some (.int (-1)) ∧ MdAt g w' m0 (nI 0) tk gN rN tN fn wn gp by9 rD tD tV tT ∧ Fm w w') 0 0) 5 [(0, .ref m0), (1, .int x)] [.int (nI 0)]
  refine r_if_eq_t (tgt := 21) C dX8_number_5 (by decide) (by decide) ?_
  refine r_iconst (q := 22) C ((-1)) dX8_number_21 (by decide) rfl ?_
  exact r_iret C rfl (by decide) (by decide) dX8_number_22 ⟨rfl, ⟨ad, _, _, _, _, e0, hks.kept (fun t _ _ => ef1 t (by omega)), ((ef1 3 (by omega)).trans h3), ((ef1 4 (by omega)).trans h4), ((ef1 5 (by omega)).trans h5), ((ef1 6 (by omega)).trans h6), ((ef1 7 (by omega)).trans h7), ((ef1 8 (by omega)).trans h8), ((ef1 9 (by omega)).trans h9), ((ef1 10 (by omega)).trans h10), hsc.kept (fun t _ _ => ef1 t (by omega)), ((ef1 16 (by omega)).trans h16), ((ef1 17 (by omega)).trans h17)⟩, fun t ht => ef1 t (by omega)⟩

set_option maxHeartbeats 4000000 in
set_option maxRecDepth 20000 in
theorem y_num_y {l : Launch} {g : cx_G} {w : wd_T} {c m0 tk gN rN tN : Nat} {fl : Int32} {fn wn : Nat → Nat} {gp by9 rD tD tV tT : Nat → Int32} (hM : MdAt g w m0 fl tk gN rN tN fn wn gp by9 rD tD tV tT) (hI : Iv9 c tk gN rN tN fn wn by9 tD tV tT) {k9 : Nat} (hk9 : k9 < tk) : Mt l g yX8_number cX8_number 2 (some .int) 1 0 0 w [.ref m0, .int (nI k9)] (fun v w' => v = some (.int (nI (fn (9 * k9)))) ∧ MdAt g w' m0 (nI 0) tk gN rN tN fn wn gp by9 rD tD tV tT ∧ Fm w w') := by
  refine mt_of RX8 "number" rfl rfl (by decide) (Nat.le_of_ble_eq_true rfl) [(0, .ref m0), (1, .int (nI k9))] rfl ?_
  intro k hkl C hin
  subst hkl
  obtain ⟨ad, rS, fS, lv, fo, h0, hks, h3, h4, h5, h6, h7, h8, h9, h10, hsc, h16, h17⟩ := id hM
  obtain ⟨i0, i1, i2, i3, i4, i5, i6, i7, i8, i9, i10⟩ := id hI
  refine r_aload_n (q := 1) C 0 dX8_number_0 rfl rfl ?_
  refine r_iload_n (q := 2) C 1 dX8_number_1 rfl rfl ?_
  refine r_callV (q := 5) (t := 0) (As := [.int (nI k9)]) (st := []) C koX8 h0 (m_ist_y h0 (by omega) hk9) q847 q844 q846 qp25 q9 rfl ⟨by decide, by decide⟩ (show (parseMethodDescriptor yX8_isTicket.desc).map (fun d => d.parameters.length) = some 1 by decide +kernel) (by decide) (by decide) (by decide) (by decide) (Nat.le_of_ble_eq_true rfl) rfl dX8_number_2 rfl ?_
  rintro v9 w2 ⟨rfl, e0, ef1⟩
  show V g k 2 w2 0 0 (kQ g k (fun v w' => v = some (.int (nI (fn (9 * k9)))) ∧ MdAt g w' m0 (nI 0) tk gN rN tN fn wn gp by9 rD tD tV tT ∧ Fm w w') 0 0) 5 [(0, .ref m0), (1, .int (nI k9))] [.int (nI 1)]
  refine r_if_eq_f (q := 8) (tgt := 21) C dX8_number_5 (by decide) rfl (by decide) ?_
  refine r_aload_n (q := 9) C 0 dX8_number_8 rfl rfl ?_
  refine r_get (q := 12) (t := 0) C koX8 e0 6 (by decide) q706 rfl rfl dX8_number_9 rfl ?_
  refine r_bipush (q := 14) C (nI 9) dX8_number_12 (by decide) rfl ?_
  refine r_iload_n (q := 15) C 1 dX8_number_14 rfl rfl ?_
  refine r_imul (q := 16) C dX8_number_15 rfl ?_
  refine r_ti (show ((nI 9) * (nI k9) : Int32) = nI (9 * k9) from pk_mul 9 k9) ?_
  refine r_lald (q := 17) (t := 6) C ((ef1 6 (by omega)).trans h6) (9 * k9) rfl (by omega) (by decide) dX8_number_16 rfl ?_
  refine r_tl (show ((fun p => lN (fn p)) (9 * k9) : Int64) = lN (fn (9 * k9)) from rfl) ?_
  refine r_l2i (q := 18) C dX8_number_17 rfl ?_
  refine r_ti (show ((lN (fn (9 * k9))).toInt32 : Int32) = nI (fn (9 * k9)) from lN_i (fn (9 * k9))) ?_
  refine r_goto (tgt := 22) C dX8_number_18 (by decide) ?_
  exact r_iret C rfl (by decide) (by decide) dX8_number_22 ⟨rfl, ⟨ad, _, _, _, _, e0, hks.kept (fun t _ _ => ef1 t (by omega)), ((ef1 3 (by omega)).trans h3), ((ef1 4 (by omega)).trans h4), ((ef1 5 (by omega)).trans h5), ((ef1 6 (by omega)).trans h6), ((ef1 7 (by omega)).trans h7), ((ef1 8 (by omega)).trans h8), ((ef1 9 (by omega)).trans h9), ((ef1 10 (by omega)).trans h10), hsc.kept (fun t _ _ => ef1 t (by omega)), ((ef1 16 (by omega)).trans h16), ((ef1 17 (by omega)).trans h17)⟩, fun t ht => ef1 t (by omega)⟩

set_option maxHeartbeats 4000000 in
set_option maxRecDepth 20000 in
theorem y_gap_n {l : Launch} {g : cx_G} {w : wd_T} {c m0 tk gN rN tN : Nat} {fl : Int32} {fn wn : Nat → Nat} {gp by9 rD tD tV tT : Nat → Int32} (hM : MdAt g w m0 fl tk gN rN tN fn wn gp by9 rD tD tV tT) (hI : Iv9 c tk gN rN tN fn wn by9 tD tV tT) {x : Int32} (hx : x < 0 ∨ nI gN ≤ x) : Mt l g yX8_gap cX8_gap 2 (some .int) 0 0 0 w [.ref m0, .int x] (fun v w' => v = some (.int (-1)) ∧ MdAt g w' m0 (nI 0) tk gN rN tN fn wn gp by9 rD tD tV tT ∧ Fm w w') := by
  refine mt_of RX8 "gap" rfl rfl (by decide) (Nat.le_of_ble_eq_true rfl) [(0, .ref m0), (1, .int x)] rfl ?_
  intro k hkl C hin
  subst hkl
  obtain ⟨ad, rS, fS, lv, fo, h0, hks, h3, h4, h5, h6, h7, h8, h9, h10, hsc, h16, h17⟩ := id hM
  obtain ⟨i0, i1, i2, i3, i4, i5, i6, i7, i8, i9, i10⟩ := id hI
  refine r_aload_n (q := 1) C 0 dX8_gap_0 rfl rfl ?_
  refine r_iconst (q := 2) C (nI 0) dX8_gap_1 (by decide) rfl ?_
  refine r_put (q := 5) (t := 0) (w' := wd_set w 0 m0 (mo ad (nI tN) (nI tk) (nI (tk + gN)) (nI gN) (nI rN) (nI 0) rS fS)) C koX8 h0 15 (by decide) q715 rfl rfl rfl rfl (Nat.le_of_ble_eq_true rfl) dX8_gap_2 rfl rfl ?_
  refine r_iload_n (q := 6) C 1 dX8_gap_5 rfl rfl ?_
  refine r_if_lt (q := 9) (tgt := 26) C dX8_gap_6 (by decide) rfl (fun hc1 => ?_) (fun hc1 => ?_)
  · refine r_iconst (q := 27) C ((-1)) dX8_gap_26 (by decide) rfl ?_
    exact r_iret C rfl (by decide) (by decide) dX8_gap_27 ⟨rfl, ⟨ad, _, _, _, _, wd_eq, hks.kept (fun t _ _ => wd_ne (by omega)), ((wd_ne (by decide)).trans h3), ((wd_ne (by decide)).trans h4), ((wd_ne (by decide)).trans h5), ((wd_ne (by decide)).trans h6), ((wd_ne (by decide)).trans h7), ((wd_ne (by decide)).trans h8), ((wd_ne (by decide)).trans h9), ((wd_ne (by decide)).trans h10), hsc.kept (fun t _ _ => wd_ne (by omega)), ((wd_ne (by decide)).trans h16), ((wd_ne (by decide)).trans h17)⟩, fun t ht => wd_ne (by omega)⟩
  · refine r_iload_n (q := 10) C 1 dX8_gap_9 rfl rfl ?_
    refine r_aload_n (q := 11) C 0 dX8_gap_10 rfl rfl ?_
    refine r_get (q := 14) (t := 0) C koX8 wd_eq 11 (by decide) q711 rfl rfl dX8_gap_11 rfl ?_
    refine r_icmp_ge_t (tgt := 26) C dX8_gap_14 (by decide) (by rcases hx with z | z; exact absurd z hc1; exact z) ?_
    refine r_iconst (q := 27) C ((-1)) dX8_gap_26 (by decide) rfl ?_
    exact r_iret C rfl (by decide) (by decide) dX8_gap_27 ⟨rfl, ⟨ad, _, _, _, _, wd_eq, hks.kept (fun t _ _ => wd_ne (by omega)), ((wd_ne (by decide)).trans h3), ((wd_ne (by decide)).trans h4), ((wd_ne (by decide)).trans h5), ((wd_ne (by decide)).trans h6), ((wd_ne (by decide)).trans h7), ((wd_ne (by decide)).trans h8), ((wd_ne (by decide)).trans h9), ((wd_ne (by decide)).trans h10), hsc.kept (fun t _ _ => wd_ne (by omega)), ((wd_ne (by decide)).trans h16), ((wd_ne (by decide)).trans h17)⟩, fun t ht => wd_ne (by omega)⟩

set_option maxHeartbeats 4000000 in
set_option maxRecDepth 20000 in
theorem y_gap_y {l : Launch} {g : cx_G} {w : wd_T} {c m0 tk gN rN tN : Nat} {fl : Int32} {fn wn : Nat → Nat} {gp by9 rD tD tV tT : Nat → Int32} (hM : MdAt g w m0 fl tk gN rN tN fn wn gp by9 rD tD tV tT) (hI : Iv9 c tk gN rN tN fn wn by9 tD tV tT) {k9 : Nat} (hk9 : k9 < gN) : Mt l g yX8_gap cX8_gap 2 (some .int) 0 0 0 w [.ref m0, .int (nI k9)] (fun v w' => v = some (.int (gp k9)) ∧ MdAt g w' m0 (nI 0) tk gN rN tN fn wn gp by9 rD tD tV tT ∧ Fm w w') := by
  refine mt_of RX8 "gap" rfl rfl (by decide) (Nat.le_of_ble_eq_true rfl) [(0, .ref m0), (1, .int (nI k9))] rfl ?_
  intro k hkl C hin
  subst hkl
  obtain ⟨ad, rS, fS, lv, fo, h0, hks, h3, h4, h5, h6, h7, h8, h9, h10, hsc, h16, h17⟩ := id hM
  obtain ⟨i0, i1, i2, i3, i4, i5, i6, i7, i8, i9, i10⟩ := id hI
  refine r_aload_n (q := 1) C 0 dX8_gap_0 rfl rfl ?_
  refine r_iconst (q := 2) C (nI 0) dX8_gap_1 (by decide) rfl ?_
  refine r_put (q := 5) (t := 0) (w' := wd_set w 0 m0 (mo ad (nI tN) (nI tk) (nI (tk + gN)) (nI gN) (nI rN) (nI 0) rS fS)) C koX8 h0 15 (by decide) q715 rfl rfl rfl rfl (Nat.le_of_ble_eq_true rfl) dX8_gap_2 rfl rfl ?_
  refine r_iload_n (q := 6) C 1 dX8_gap_5 rfl rfl ?_
  refine r_if_lt_f (q := 9) (tgt := 26) C dX8_gap_6 (by decide) rfl (nI_pos (by omega)) ?_
  refine r_iload_n (q := 10) C 1 dX8_gap_9 rfl rfl ?_
  refine r_aload_n (q := 11) C 0 dX8_gap_10 rfl rfl ?_
  refine r_get (q := 14) (t := 0) C koX8 wd_eq 11 (by decide) q711 rfl rfl dX8_gap_11 rfl ?_
  refine r_icmp_ge_f (q := 17) (tgt := 26) C dX8_gap_14 (by decide) rfl (fun z => absurd ((nI_leI (a := gN) (b := k9) (by omega) (by omega)).mp z) (by omega)) ?_
  refine r_aload_n (q := 18) C 0 dX8_gap_17 rfl rfl ?_
  refine r_get (q := 21) (t := 0) C koX8 wd_eq 10 (by decide) q710 rfl rfl dX8_gap_18 rfl ?_
  refine r_iload_n (q := 22) C 1 dX8_gap_21 rfl rfl ?_
  refine r_iald (q := 23) (t := 8) C ((wd_ne (by decide)).trans h8) k9 rfl (by omega) (by decide) dX8_gap_22 rfl ?_
  refine r_goto (tgt := 27) C dX8_gap_23 (by decide) ?_
  exact r_iret C rfl (by decide) (by decide) dX8_gap_27 ⟨rfl, ⟨ad, _, _, _, _, wd_eq, hks.kept (fun t _ _ => wd_ne (by omega)), ((wd_ne (by decide)).trans h3), ((wd_ne (by decide)).trans h4), ((wd_ne (by decide)).trans h5), ((wd_ne (by decide)).trans h6), ((wd_ne (by decide)).trans h7), ((wd_ne (by decide)).trans h8), ((wd_ne (by decide)).trans h9), ((wd_ne (by decide)).trans h10), hsc.kept (fun t _ _ => wd_ne (by omega)), ((wd_ne (by decide)).trans h16), ((wd_ne (by decide)).trans h17)⟩, fun t ht => wd_ne (by omega)⟩

set_option maxHeartbeats 4000000 in
set_option maxRecDepth 20000 in
theorem y_rows {l : Launch} {g : cx_G} {w : wd_T} {c m0 tk gN rN tN : Nat} {fl : Int32} {fn wn : Nat → Nat} {gp by9 rD tD tV tT : Nat → Int32} (hM : MdAt g w m0 fl tk gN rN tN fn wn gp by9 rD tD tV tT) (hI : Iv9 c tk gN rN tN fn wn by9 tD tV tT) : Mt l g yX8_rows cX8_rows 1 (some .int) 0 0 0 w [.ref m0] (fun v w' => v = some (.int (nI rN)) ∧ MdAt g w' m0 (nI 0) tk gN rN tN fn wn gp by9 rD tD tV tT ∧ Fm w w') := by
  refine mt_of RX8 "rows" rfl rfl (by decide) (Nat.le_of_ble_eq_true rfl) [(0, .ref m0)] rfl ?_
  intro k hkl C hin
  subst hkl
  obtain ⟨ad, rS, fS, lv, fo, h0, hks, h3, h4, h5, h6, h7, h8, h9, h10, hsc, h16, h17⟩ := id hM
  obtain ⟨i0, i1, i2, i3, i4, i5, i6, i7, i8, i9, i10⟩ := id hI
  refine r_aload_n (q := 1) C 0 dX8_rows_0 rfl rfl ?_
  refine r_iconst (q := 2) C (nI 0) dX8_rows_1 (by decide) rfl ?_
  refine r_put (q := 5) (t := 0) (w' := wd_set w 0 m0 (mo ad (nI tN) (nI tk) (nI (tk + gN)) (nI gN) (nI rN) (nI 0) rS fS)) C koX8 h0 15 (by decide) q715 rfl rfl rfl rfl (Nat.le_of_ble_eq_true rfl) dX8_rows_2 rfl rfl ?_
  refine r_aload_n (q := 6) C 0 dX8_rows_5 rfl rfl ?_
  refine r_get (q := 9) (t := 0) C koX8 wd_eq 14 (by decide) q714 rfl rfl dX8_rows_6 rfl ?_
  exact r_iret C rfl (by decide) (by decide) dX8_rows_9 ⟨rfl, ⟨ad, _, _, _, _, wd_eq, hks.kept (fun t _ _ => wd_ne (by omega)), ((wd_ne (by decide)).trans h3), ((wd_ne (by decide)).trans h4), ((wd_ne (by decide)).trans h5), ((wd_ne (by decide)).trans h6), ((wd_ne (by decide)).trans h7), ((wd_ne (by decide)).trans h8), ((wd_ne (by decide)).trans h9), ((wd_ne (by decide)).trans h10), hsc.kept (fun t _ _ => wd_ne (by omega)), ((wd_ne (by decide)).trans h16), ((wd_ne (by decide)).trans h17)⟩, fun t ht => wd_ne (by omega)⟩

set_option maxHeartbeats 4000000 in
set_option maxRecDepth 20000 in
theorem y_made {l : Launch} {g : cx_G} {w : wd_T} {c m0 tk gN rN tN : Nat} {fl : Int32} {fn wn : Nat → Nat} {gp by9 rD tD tV tT : Nat → Int32} (hM : MdAt g w m0 fl tk gN rN tN fn wn gp by9 rD tD tV tT) (hI : Iv9 c tk gN rN tN fn wn by9 tD tV tT) : Mt l g yX8_made cX8_made 1 (some .int) 0 0 0 w [.ref m0] (fun v w' => v = some (.int (nI (tk + gN))) ∧ MdAt g w' m0 (nI 0) tk gN rN tN fn wn gp by9 rD tD tV tT ∧ Fm w w') := by
  refine mt_of RX8 "made" rfl rfl (by decide) (Nat.le_of_ble_eq_true rfl) [(0, .ref m0)] rfl ?_
  intro k hkl C hin
  subst hkl
  obtain ⟨ad, rS, fS, lv, fo, h0, hks, h3, h4, h5, h6, h7, h8, h9, h10, hsc, h16, h17⟩ := id hM
  obtain ⟨i0, i1, i2, i3, i4, i5, i6, i7, i8, i9, i10⟩ := id hI
  refine r_aload_n (q := 1) C 0 dX8_made_0 rfl rfl ?_
  refine r_iconst (q := 2) C (nI 0) dX8_made_1 (by decide) rfl ?_
  refine r_put (q := 5) (t := 0) (w' := wd_set w 0 m0 (mo ad (nI tN) (nI tk) (nI (tk + gN)) (nI gN) (nI rN) (nI 0) rS fS)) C koX8 h0 15 (by decide) q715 rfl rfl rfl rfl (Nat.le_of_ble_eq_true rfl) dX8_made_2 rfl rfl ?_
  refine r_aload_n (q := 6) C 0 dX8_made_5 rfl rfl ?_
  refine r_get (q := 9) (t := 0) C koX8 wd_eq 9 (by decide) q709 rfl rfl dX8_made_6 rfl ?_
  exact r_iret C rfl (by decide) (by decide) dX8_made_9 ⟨rfl, ⟨ad, _, _, _, _, wd_eq, hks.kept (fun t _ _ => wd_ne (by omega)), ((wd_ne (by decide)).trans h3), ((wd_ne (by decide)).trans h4), ((wd_ne (by decide)).trans h5), ((wd_ne (by decide)).trans h6), ((wd_ne (by decide)).trans h7), ((wd_ne (by decide)).trans h8), ((wd_ne (by decide)).trans h9), ((wd_ne (by decide)).trans h10), hsc.kept (fun t _ _ => wd_ne (by omega)), ((wd_ne (by decide)).trans h16), ((wd_ne (by decide)).trans h17)⟩, fun t ht => wd_ne (by omega)⟩

set_option maxHeartbeats 4000000 in
set_option maxRecDepth 20000 in
theorem y_spl_n {l : Launch} {g : cx_G} {w : wd_T} {c m0 tk gN rN tN : Nat} {fl : Int32} {fn wn : Nat → Nat} {gp by9 rD tD tV tT : Nat → Int32} (hM : MdAt g w m0 fl tk gN rN tN fn wn gp by9 rD tD tV tT) (hI : Iv9 c tk gN rN tN fn wn by9 tD tV tT) {x : Int32} (hx : x < 0 ∨ nI tk ≤ x) {y : Int32} {z : Int64} : Mt l g yX8_split cX8_split 5 (some .boolean) 1 0 0 w [.ref m0, .int x, .int y, .long z] (fun v w' => v = some (.int (nI 0)) ∧ MdAt g w' m0 (nI 0) tk gN rN tN fn wn gp by9 rD tD tV tT ∧ Fm w w') := by
  refine mt_of RX8 "split" rfl rfl (by decide) (Nat.le_of_ble_eq_true rfl) [(0, .ref m0), (1, .int x), (2, .int y), (3, .long z)] rfl ?_
  intro k hkl C hin
  subst hkl
  obtain ⟨ad, rS, fS, lv, fo, h0, hks, h3, h4, h5, h6, h7, h8, h9, h10, hsc, h16, h17⟩ := id hM
  obtain ⟨i0, i1, i2, i3, i4, i5, i6, i7, i8, i9, i10⟩ := id hI
  refine r_aload_n (q := 1) C 0 dX8_split_0 rfl rfl ?_
  refine r_iload_n (q := 2) C 1 dX8_split_1 rfl rfl ?_
  refine r_callV (q := 5) (t := 0) (As := [.int x]) (st := []) C koX8 h0 (m_ist_n h0 (by omega) hx) q847 q844 q846 qp25 q9 rfl ⟨by decide, by decide⟩ (show (parseMethodDescriptor yX8_isTicket.desc).map (fun d => d.parameters.length) = some 1 by decide +kernel) (by decide) (by decide) (by decide) (by decide) (Nat.le_of_ble_eq_true rfl) rfl dX8_split_2 rfl ?_
  rintro v9 w2 ⟨rfl, e0, ef1⟩
  show V g k 5 w2 0 0 (kQ g k (fun v w' => v = some (.int (nI 0)) ∧ MdAt g w' m0 (nI 0) tk gN rN tN fn wn gp by9 rD tD tV tT ∧ Fm w w') 0 0) 5 [(0, .ref m0), (1, .int x), (2, .int y), (3, .long z)] [.int (nI 0)]
  refine r_if_eq_t (tgt := 29) C dX8_split_5 (by decide) (by decide) ?_
  refine r_iconst (q := 30) C (nI 0) dX8_split_29 (by decide) rfl ?_
  exact r_zret C rfl rfl (by decide) (by decide) dX8_split_30 ⟨rfl, ⟨ad, _, _, _, _, e0, hks.kept (fun t _ _ => ef1 t (by omega)), ((ef1 3 (by omega)).trans h3), ((ef1 4 (by omega)).trans h4), ((ef1 5 (by omega)).trans h5), ((ef1 6 (by omega)).trans h6), ((ef1 7 (by omega)).trans h7), ((ef1 8 (by omega)).trans h8), ((ef1 9 (by omega)).trans h9), ((ef1 10 (by omega)).trans h10), hsc.kept (fun t _ _ => ef1 t (by omega)), ((ef1 16 (by omega)).trans h16), ((ef1 17 (by omega)).trans h17)⟩, fun t ht => ef1 t (by omega)⟩

set_option maxHeartbeats 4000000 in
set_option maxRecDepth 20000 in
theorem y_spl_c {l : Launch} {g : cx_G} {w : wd_T} {c m0 tk gN rN tN : Nat} {fl : Int32} {fn wn : Nat → Nat} {gp by9 rD tD tV tT : Nat → Int32} (hM : MdAt g w m0 fl tk gN rN tN fn wn gp by9 rD tD tV tT) (hI : Iv9 c tk gN rN tN fn wn by9 tD tV tT) {k9 : Nat} (hk9 : k9 < tk) {y : Int32} {z : Int64} (hy : y < 0 ∨ nI 8 ≤ y) : Mt l g yX8_split cX8_split 5 (some .boolean) 1 0 0 w [.ref m0, .int (nI k9), .int y, .long z] (fun v w' => v = some (.int (nI 0)) ∧ MdAt g w' m0 (nI 0) tk gN rN tN fn wn gp by9 rD tD tV tT ∧ Fm w w') := by
  refine mt_of RX8 "split" rfl rfl (by decide) (Nat.le_of_ble_eq_true rfl) [(0, .ref m0), (1, .int (nI k9)), (2, .int y), (3, .long z)] rfl ?_
  intro k hkl C hin
  subst hkl
  obtain ⟨ad, rS, fS, lv, fo, h0, hks, h3, h4, h5, h6, h7, h8, h9, h10, hsc, h16, h17⟩ := id hM
  obtain ⟨i0, i1, i2, i3, i4, i5, i6, i7, i8, i9, i10⟩ := id hI
  refine r_aload_n (q := 1) C 0 dX8_split_0 rfl rfl ?_
  refine r_iload_n (q := 2) C 1 dX8_split_1 rfl rfl ?_
  refine r_callV (q := 5) (t := 0) (As := [.int (nI k9)]) (st := []) C koX8 h0 (m_ist_y h0 (by omega) hk9) q847 q844 q846 qp25 q9 rfl ⟨by decide, by decide⟩ (show (parseMethodDescriptor yX8_isTicket.desc).map (fun d => d.parameters.length) = some 1 by decide +kernel) (by decide) (by decide) (by decide) (by decide) (Nat.le_of_ble_eq_true rfl) rfl dX8_split_2 rfl ?_
  rintro v9 w2 ⟨rfl, e0, ef1⟩
  show V g k 5 w2 0 0 (kQ g k (fun v w' => v = some (.int (nI 0)) ∧ MdAt g w' m0 (nI 0) tk gN rN tN fn wn gp by9 rD tD tV tT ∧ Fm w w') 0 0) 5 [(0, .ref m0), (1, .int (nI k9)), (2, .int y), (3, .long z)] [.int (nI 1)]
  refine r_if_eq_f (q := 8) (tgt := 29) C dX8_split_5 (by decide) rfl (by decide) ?_
  refine r_iload_n (q := 9) C 2 dX8_split_8 rfl rfl ?_
  refine r_i2l (q := 10) C dX8_split_9 rfl ?_
  refine r_ldc2 (q := 13) (v := lN 7) C dX8_split_10 q880 rfl ?_
  refine r_callS (q := 16) (As := [.long y.toInt64, .long (lN 7)]) (st := []) C (m_in_n (b := 7) (in_i (by decide) hy) (by decide)) q787 q785 q786 q9 ⟨by decide, by decide⟩ (show (parseMethodDescriptor yX8_isIn.desc).map (fun d => d.parameters.length) = some 2 by decide +kernel) (by decide) (by decide) (by decide) (by decide) (Nat.le_of_ble_eq_true rfl) rfl dX8_split_13 rfl ?_
  rintro v9 w4 ⟨rfl, rfl⟩
  show V g k 5 w2 0 0 (kQ g k (fun v w' => v = some (.int (nI 0)) ∧ MdAt g w' m0 (nI 0) tk gN rN tN fn wn gp by9 rD tD tV tT ∧ Fm w w') 0 0) 16 [(0, .ref m0), (1, .int (nI k9)), (2, .int y), (3, .long z)] [.int (nI 0)]
  refine r_if_eq_t (tgt := 29) C dX8_split_16 (by decide) (by decide) ?_
  refine r_iconst (q := 30) C (nI 0) dX8_split_29 (by decide) rfl ?_
  exact r_zret C rfl rfl (by decide) (by decide) dX8_split_30 ⟨rfl, ⟨ad, _, _, _, _, e0, hks.kept (fun t _ _ => ef1 t (by omega)), ((ef1 3 (by omega)).trans h3), ((ef1 4 (by omega)).trans h4), ((ef1 5 (by omega)).trans h5), ((ef1 6 (by omega)).trans h6), ((ef1 7 (by omega)).trans h7), ((ef1 8 (by omega)).trans h8), ((ef1 9 (by omega)).trans h9), ((ef1 10 (by omega)).trans h10), hsc.kept (fun t _ _ => ef1 t (by omega)), ((ef1 16 (by omega)).trans h16), ((ef1 17 (by omega)).trans h17)⟩, fun t ht => ef1 t (by omega)⟩

set_option maxHeartbeats 4000000 in
set_option maxRecDepth 20000 in
theorem y_spl_w {l : Launch} {g : cx_G} {w : wd_T} {c m0 tk gN rN tN : Nat} {fl : Int32} {fn wn : Nat → Nat} {gp by9 rD tD tV tT : Nat → Int32} (hM : MdAt g w m0 fl tk gN rN tN fn wn gp by9 rD tD tV tT) (hI : Iv9 c tk gN rN tN fn wn by9 tD tV tT) {k9 : Nat} (hk9 : k9 < tk) {i : Nat} {z : Int64} (hi : i < 8) (hz : ¬ ∃ n, n ≤ 1000000 ∧ z = lN n) : Mt l g yX8_split cX8_split 5 (some .boolean) 1 0 0 w [.ref m0, .int (nI k9), .int (nI i), .long z] (fun v w' => v = some (.int (nI 0)) ∧ MdAt g w' m0 (nI 0) tk gN rN tN fn wn gp by9 rD tD tV tT ∧ Fm w w') := by
  refine mt_of RX8 "split" rfl rfl (by decide) (Nat.le_of_ble_eq_true rfl) [(0, .ref m0), (1, .int (nI k9)), (2, .int (nI i)), (3, .long z)] rfl ?_
  intro k hkl C hin
  subst hkl
  obtain ⟨ad, rS, fS, lv, fo, h0, hks, h3, h4, h5, h6, h7, h8, h9, h10, hsc, h16, h17⟩ := id hM
  obtain ⟨i0, i1, i2, i3, i4, i5, i6, i7, i8, i9, i10⟩ := id hI
  refine r_aload_n (q := 1) C 0 dX8_split_0 rfl rfl ?_
  refine r_iload_n (q := 2) C 1 dX8_split_1 rfl rfl ?_
  refine r_callV (q := 5) (t := 0) (As := [.int (nI k9)]) (st := []) C koX8 h0 (m_ist_y h0 (by omega) hk9) q847 q844 q846 qp25 q9 rfl ⟨by decide, by decide⟩ (show (parseMethodDescriptor yX8_isTicket.desc).map (fun d => d.parameters.length) = some 1 by decide +kernel) (by decide) (by decide) (by decide) (by decide) (Nat.le_of_ble_eq_true rfl) rfl dX8_split_2 rfl ?_
  rintro v9 w2 ⟨rfl, e0, ef1⟩
  show V g k 5 w2 0 0 (kQ g k (fun v w' => v = some (.int (nI 0)) ∧ MdAt g w' m0 (nI 0) tk gN rN tN fn wn gp by9 rD tD tV tT ∧ Fm w w') 0 0) 5 [(0, .ref m0), (1, .int (nI k9)), (2, .int (nI i)), (3, .long z)] [.int (nI 1)]
  refine r_if_eq_f (q := 8) (tgt := 29) C dX8_split_5 (by decide) rfl (by decide) ?_
  refine r_iload_n (q := 9) C 2 dX8_split_8 rfl rfl ?_
  refine r_i2l (q := 10) C dX8_split_9 rfl ?_
  refine r_tl (show ((nI i).toInt64 : Int64) = lN i from nI_l (by omega)) ?_
  refine r_ldc2 (q := 13) (v := lN 7) C dX8_split_10 q880 rfl ?_
  refine r_callS (q := 16) (As := [.long (lN i), .long (lN 7)]) (st := []) C (m_in_y (n := i) (b := 7) (by omega) (by decide)) q787 q785 q786 q9 ⟨by decide, by decide⟩ (show (parseMethodDescriptor yX8_isIn.desc).map (fun d => d.parameters.length) = some 2 by decide +kernel) (by decide) (by decide) (by decide) (by decide) (Nat.le_of_ble_eq_true rfl) rfl dX8_split_13 rfl ?_
  rintro v9 w4 ⟨rfl, rfl⟩
  show V g k 5 w2 0 0 (kQ g k (fun v w' => v = some (.int (nI 0)) ∧ MdAt g w' m0 (nI 0) tk gN rN tN fn wn gp by9 rD tD tV tT ∧ Fm w w') 0 0) 16 [(0, .ref m0), (1, .int (nI k9)), (2, .int (nI i)), (3, .long z)] [.int (nI 1)]
  refine r_if_eq_f (q := 19) (tgt := 29) C dX8_split_16 (by decide) rfl (by decide) ?_
  refine r_lload_n (q := 20) C 3 dX8_split_19 rfl rfl ?_
  refine r_ldc2 (q := 23) (v := lN 1000000) C dX8_split_20 q881 rfl ?_
  refine r_callS (q := 26) (As := [.long z, .long (lN 1000000)]) (st := []) C (m_in_n (b := 1000000) hz (by decide)) q787 q785 q786 q9 ⟨by decide, by decide⟩ (show (parseMethodDescriptor yX8_isIn.desc).map (fun d => d.parameters.length) = some 2 by decide +kernel) (by decide) (by decide) (by decide) (by decide) (Nat.le_of_ble_eq_true rfl) rfl dX8_split_23 rfl ?_
  rintro v9 w5 ⟨rfl, rfl⟩
  show V g k 5 w2 0 0 (kQ g k (fun v w' => v = some (.int (nI 0)) ∧ MdAt g w' m0 (nI 0) tk gN rN tN fn wn gp by9 rD tD tV tT ∧ Fm w w') 0 0) 26 [(0, .ref m0), (1, .int (nI k9)), (2, .int (nI i)), (3, .long z)] [.int (nI 0)]
  refine r_if_ne_f (q := 29) (tgt := 31) C dX8_split_26 (by decide) rfl (by decide) ?_
  refine r_iconst (q := 30) C (nI 0) dX8_split_29 (by decide) rfl ?_
  exact r_zret C rfl rfl (by decide) (by decide) dX8_split_30 ⟨rfl, ⟨ad, _, _, _, _, e0, hks.kept (fun t _ _ => ef1 t (by omega)), ((ef1 3 (by omega)).trans h3), ((ef1 4 (by omega)).trans h4), ((ef1 5 (by omega)).trans h5), ((ef1 6 (by omega)).trans h6), ((ef1 7 (by omega)).trans h7), ((ef1 8 (by omega)).trans h8), ((ef1 9 (by omega)).trans h9), ((ef1 10 (by omega)).trans h10), hsc.kept (fun t _ _ => ef1 t (by omega)), ((ef1 16 (by omega)).trans h16), ((ef1 17 (by omega)).trans h17)⟩, fun t ht => ef1 t (by omega)⟩

set_option maxHeartbeats 4000000 in
set_option maxRecDepth 20000 in
theorem y_spl_y {l : Launch} {g : cx_G} {w : wd_T} {c m0 tk gN rN tN : Nat} {fl : Int32} {fn wn : Nat → Nat} {gp by9 rD tD tV tT : Nat → Int32} (hM : MdAt g w m0 fl tk gN rN tN fn wn gp by9 rD tD tV tT) (hI : Iv9 c tk gN rN tN fn wn by9 tD tV tT) {k9 : Nat} (hk9 : k9 < tk) {i n : Nat} (hi : i < 8) (hn : n ≤ 1000000) : Mt l g yX8_split cX8_split 5 (some .boolean) 1 0 0 w [.ref m0, .int (nI k9), .int (nI i), .long (lN n)] (fun v w' => v = some (.int (nI 1)) ∧ MdAt g w' m0 (nI 0) tk gN rN tN fn (upN wn (8 * k9 + i) n) gp by9 rD tD tV tT ∧ Fm w w') := by
  refine mt_of RX8 "split" rfl rfl (by decide) (Nat.le_of_ble_eq_true rfl) [(0, .ref m0), (1, .int (nI k9)), (2, .int (nI i)), (3, .long (lN n))] rfl ?_
  intro k hkl C hin
  subst hkl
  obtain ⟨ad, rS, fS, lv, fo, h0, hks, h3, h4, h5, h6, h7, h8, h9, h10, hsc, h16, h17⟩ := id hM
  obtain ⟨i0, i1, i2, i3, i4, i5, i6, i7, i8, i9, i10⟩ := id hI
  refine r_aload_n (q := 1) C 0 dX8_split_0 rfl rfl ?_
  refine r_iload_n (q := 2) C 1 dX8_split_1 rfl rfl ?_
  refine r_callV (q := 5) (t := 0) (As := [.int (nI k9)]) (st := []) C koX8 h0 (m_ist_y h0 (by omega) hk9) q847 q844 q846 qp25 q9 rfl ⟨by decide, by decide⟩ (show (parseMethodDescriptor yX8_isTicket.desc).map (fun d => d.parameters.length) = some 1 by decide +kernel) (by decide) (by decide) (by decide) (by decide) (Nat.le_of_ble_eq_true rfl) rfl dX8_split_2 rfl ?_
  rintro v9 w2 ⟨rfl, e0, ef1⟩
  show V g k 5 w2 0 0 (kQ g k (fun v w' => v = some (.int (nI 1)) ∧ MdAt g w' m0 (nI 0) tk gN rN tN fn (upN wn (8 * k9 + i) n) gp by9 rD tD tV tT ∧ Fm w w') 0 0) 5 [(0, .ref m0), (1, .int (nI k9)), (2, .int (nI i)), (3, .long (lN n))] [.int (nI 1)]
  refine r_if_eq_f (q := 8) (tgt := 29) C dX8_split_5 (by decide) rfl (by decide) ?_
  refine r_iload_n (q := 9) C 2 dX8_split_8 rfl rfl ?_
  refine r_i2l (q := 10) C dX8_split_9 rfl ?_
  refine r_tl (show ((nI i).toInt64 : Int64) = lN i from nI_l (by omega)) ?_
  refine r_ldc2 (q := 13) (v := lN 7) C dX8_split_10 q880 rfl ?_
  refine r_callS (q := 16) (As := [.long (lN i), .long (lN 7)]) (st := []) C (m_in_y (n := i) (b := 7) (by omega) (by decide)) q787 q785 q786 q9 ⟨by decide, by decide⟩ (show (parseMethodDescriptor yX8_isIn.desc).map (fun d => d.parameters.length) = some 2 by decide +kernel) (by decide) (by decide) (by decide) (by decide) (Nat.le_of_ble_eq_true rfl) rfl dX8_split_13 rfl ?_
  rintro v9 w4 ⟨rfl, rfl⟩
  show V g k 5 w2 0 0 (kQ g k (fun v w' => v = some (.int (nI 1)) ∧ MdAt g w' m0 (nI 0) tk gN rN tN fn (upN wn (8 * k9 + i) n) gp by9 rD tD tV tT ∧ Fm w w') 0 0) 16 [(0, .ref m0), (1, .int (nI k9)), (2, .int (nI i)), (3, .long (lN n))] [.int (nI 1)]
  refine r_if_eq_f (q := 19) (tgt := 29) C dX8_split_16 (by decide) rfl (by decide) ?_
  refine r_lload_n (q := 20) C 3 dX8_split_19 rfl rfl ?_
  refine r_ldc2 (q := 23) (v := lN 1000000) C dX8_split_20 q881 rfl ?_
  refine r_callS (q := 26) (As := [.long (lN n), .long (lN 1000000)]) (st := []) C (m_in_y (n := n) (b := 1000000) hn (by decide)) q787 q785 q786 q9 ⟨by decide, by decide⟩ (show (parseMethodDescriptor yX8_isIn.desc).map (fun d => d.parameters.length) = some 2 by decide +kernel) (by decide) (by decide) (by decide) (by decide) (Nat.le_of_ble_eq_true rfl) rfl dX8_split_23 rfl ?_
  rintro v9 w5 ⟨rfl, rfl⟩
  show V g k 5 w2 0 0 (kQ g k (fun v w' => v = some (.int (nI 1)) ∧ MdAt g w' m0 (nI 0) tk gN rN tN fn (upN wn (8 * k9 + i) n) gp by9 rD tD tV tT ∧ Fm w w') 0 0) 26 [(0, .ref m0), (1, .int (nI k9)), (2, .int (nI i)), (3, .long (lN n))] [.int (nI 1)]
  refine r_if_ne_t (tgt := 31) C dX8_split_26 (by decide) (by decide) ?_
  refine r_aload_n (q := 32) C 0 dX8_split_31 rfl rfl ?_
  refine r_get (q := 35) (t := 0) C koX8 e0 7 (by decide) q707 rfl rfl dX8_split_32 rfl ?_
  refine r_bipush (q := 37) C (nI 8) dX8_split_35 (by decide) rfl ?_
  refine r_iload_n (q := 38) C 1 dX8_split_37 rfl rfl ?_
  refine r_imul (q := 39) C dX8_split_38 rfl ?_
  refine r_ti (show ((nI 8) * (nI k9) : Int32) = nI (8 * k9) from pk_mul 8 k9) ?_
  refine r_iload_n (q := 40) C 2 dX8_split_39 rfl rfl ?_
  refine r_iadd (q := 41) C dX8_split_40 rfl ?_
  refine r_ti (show ((nI (8 * k9)) + (nI i) : Int32) = nI (8 * k9 + i) from nI_add (8 * k9) i) ?_
  refine r_lload_n (q := 42) C 3 dX8_split_41 rfl rfl ?_
  refine r_l2i (q := 43) C dX8_split_42 rfl ?_
  refine r_ti (show ((lN n).toInt32 : Int32) = nI n from lN_i n) ?_
  refine r_iast (q := 44) (t := 7) (w' := wd_set w2 7 (ad 7) (aI g 1600 (upd (fun p => nI (wn p)) (8 * k9 + i) (nI n)))) C ((ef1 7 (by omega)).trans h7) (8 * k9 + i) rfl (by omega) (by decide) dX8_split_43 rfl rfl ?_
  refine r_iconst (q := 45) C (nI 1) dX8_split_44 (by decide) rfl ?_
  exact r_zret C rfl rfl (by decide) (by decide) dX8_split_45 ⟨rfl, ⟨ad, _, _, _, _, ((wd_ne (by decide)).trans e0), hks.kept (fun t _ _ => (wd_ne (by omega)).trans (ef1 t (by omega))), ((wd_ne (by decide)).trans ((ef1 3 (by omega)).trans h3)), ((wd_ne (by decide)).trans ((ef1 4 (by omega)).trans h4)), ((wd_ne (by decide)).trans ((ef1 5 (by omega)).trans h5)), ((wd_ne (by decide)).trans ((ef1 6 (by omega)).trans h6)), (by rw [← upd_wn]; exact wd_eq), ((wd_ne (by decide)).trans ((ef1 8 (by omega)).trans h8)), ((wd_ne (by decide)).trans ((ef1 9 (by omega)).trans h9)), ((wd_ne (by decide)).trans ((ef1 10 (by omega)).trans h10)), hsc.kept (fun t _ _ => (wd_ne (by omega)).trans (ef1 t (by omega))), ((wd_ne (by decide)).trans ((ef1 16 (by omega)).trans h16)), ((wd_ne (by decide)).trans ((ef1 17 (by omega)).trans h17))⟩, fun t ht => (wd_ne (by omega)).trans (ef1 t (by omega))⟩

set_option maxHeartbeats 4000000 in
set_option maxRecDepth 20000 in
theorem y_pk_n {l : Launch} {g : cx_G} {w : wd_T} {c m0 tk gN rN tN : Nat} {fl : Int32} {fn wn : Nat → Nat} {gp by9 rD tD tV tT : Nat → Int32} (hM : MdAt g w m0 fl tk gN rN tN fn wn gp by9 rD tD tV tT) (hI : Iv9 c tk gN rN tN fn wn by9 tD tV tT) {x : Int32} (hx : x < 0 ∨ nI rN ≤ x) {y z : Int32} : Mt l g yX8_poke cX8_poke 4 (some .boolean) 1 0 0 w [.ref m0, .int x, .int y, .int z] (fun v w' => v = some (.int (nI 0)) ∧ MdAt g w' m0 (nI 0) tk gN rN tN fn wn gp by9 rD tD tV tT ∧ Fm w w') := by
  refine mt_of RX8 "poke" rfl rfl (by decide) (Nat.le_of_ble_eq_true rfl) [(0, .ref m0), (1, .int x), (2, .int y), (3, .int z)] rfl ?_
  intro k hkl C hin
  subst hkl
  obtain ⟨ad, rS, fS, lv, fo, h0, hks, h3, h4, h5, h6, h7, h8, h9, h10, hsc, h16, h17⟩ := id hM
  obtain ⟨i0, i1, i2, i3, i4, i5, i6, i7, i8, i9, i10⟩ := id hI
  refine r_aload_n (q := 1) C 0 dX8_poke_0 rfl rfl ?_
  refine r_iload_n (q := 2) C 1 dX8_poke_1 rfl rfl ?_
  refine r_callV (q := 5) (t := 0) (As := [.int x]) (st := []) C koX8 h0 (m_isr_n h0 (by omega) hx) q908 q905 q907 qp29 q9 rfl ⟨by decide, by decide⟩ (show (parseMethodDescriptor yX8_isRow.desc).map (fun d => d.parameters.length) = some 1 by decide +kernel) (by decide) (by decide) (by decide) (by decide) (Nat.le_of_ble_eq_true rfl) rfl dX8_poke_2 rfl ?_
  rintro v9 w2 ⟨rfl, e0, ef1⟩
  show V g k 4 w2 0 0 (kQ g k (fun v w' => v = some (.int (nI 0)) ∧ MdAt g w' m0 (nI 0) tk gN rN tN fn wn gp by9 rD tD tV tT ∧ Fm w w') 0 0) 5 [(0, .ref m0), (1, .int x), (2, .int y), (3, .int z)] [.int (nI 0)]
  refine r_if_eq_t (tgt := 31) C dX8_poke_5 (by decide) (by decide) ?_
  refine r_iconst (q := 32) C (nI 0) dX8_poke_31 (by decide) rfl ?_
  exact r_zret C rfl rfl (by decide) (by decide) dX8_poke_32 ⟨rfl, ⟨ad, _, _, _, _, e0, hks.kept (fun t _ _ => ef1 t (by omega)), ((ef1 3 (by omega)).trans h3), ((ef1 4 (by omega)).trans h4), ((ef1 5 (by omega)).trans h5), ((ef1 6 (by omega)).trans h6), ((ef1 7 (by omega)).trans h7), ((ef1 8 (by omega)).trans h8), ((ef1 9 (by omega)).trans h9), ((ef1 10 (by omega)).trans h10), hsc.kept (fun t _ _ => ef1 t (by omega)), ((ef1 16 (by omega)).trans h16), ((ef1 17 (by omega)).trans h17)⟩, fun t ht => ef1 t (by omega)⟩

set_option maxHeartbeats 4000000 in
set_option maxRecDepth 20000 in
theorem y_pk_i {l : Launch} {g : cx_G} {w : wd_T} {c m0 tk gN rN tN : Nat} {fl : Int32} {fn wn : Nat → Nat} {gp by9 rD tD tV tT : Nat → Int32} (hM : MdAt g w m0 fl tk gN rN tN fn wn gp by9 rD tD tV tT) (hI : Iv9 c tk gN rN tN fn wn by9 tD tV tT) {k9 : Nat} (hk9 : k9 < rN) {y z : Int32} (hy : y < 0 ∨ nI 73 ≤ y) : Mt l g yX8_poke cX8_poke 4 (some .boolean) 1 0 0 w [.ref m0, .int (nI k9), .int y, .int z] (fun v w' => v = some (.int (nI 0)) ∧ MdAt g w' m0 (nI 0) tk gN rN tN fn wn gp by9 rD tD tV tT ∧ Fm w w') := by
  refine mt_of RX8 "poke" rfl rfl (by decide) (Nat.le_of_ble_eq_true rfl) [(0, .ref m0), (1, .int (nI k9)), (2, .int y), (3, .int z)] rfl ?_
  intro k hkl C hin
  subst hkl
  obtain ⟨ad, rS, fS, lv, fo, h0, hks, h3, h4, h5, h6, h7, h8, h9, h10, hsc, h16, h17⟩ := id hM
  obtain ⟨i0, i1, i2, i3, i4, i5, i6, i7, i8, i9, i10⟩ := id hI
  refine r_aload_n (q := 1) C 0 dX8_poke_0 rfl rfl ?_
  refine r_iload_n (q := 2) C 1 dX8_poke_1 rfl rfl ?_
  refine r_callV (q := 5) (t := 0) (As := [.int (nI k9)]) (st := []) C koX8 h0 (m_isr_y h0 (by omega) hk9) q908 q905 q907 qp29 q9 rfl ⟨by decide, by decide⟩ (show (parseMethodDescriptor yX8_isRow.desc).map (fun d => d.parameters.length) = some 1 by decide +kernel) (by decide) (by decide) (by decide) (by decide) (Nat.le_of_ble_eq_true rfl) rfl dX8_poke_2 rfl ?_
  rintro v9 w2 ⟨rfl, e0, ef1⟩
  show V g k 4 w2 0 0 (kQ g k (fun v w' => v = some (.int (nI 0)) ∧ MdAt g w' m0 (nI 0) tk gN rN tN fn wn gp by9 rD tD tV tT ∧ Fm w w') 0 0) 5 [(0, .ref m0), (1, .int (nI k9)), (2, .int y), (3, .int z)] [.int (nI 1)]
  refine r_if_eq_f (q := 8) (tgt := 31) C dX8_poke_5 (by decide) rfl (by decide) ?_
  refine r_iload_n (q := 9) C 2 dX8_poke_8 rfl rfl ?_
  refine r_i2l (q := 10) C dX8_poke_9 rfl ?_
  refine r_ldc2 (q := 13) (v := lN 72) C dX8_poke_10 q909 rfl ?_
  refine r_callS (q := 16) (As := [.long y.toInt64, .long (lN 72)]) (st := []) C (m_in_n (b := 72) (in_i (by decide) hy) (by decide)) q787 q785 q786 q9 ⟨by decide, by decide⟩ (show (parseMethodDescriptor yX8_isIn.desc).map (fun d => d.parameters.length) = some 2 by decide +kernel) (by decide) (by decide) (by decide) (by decide) (Nat.le_of_ble_eq_true rfl) rfl dX8_poke_13 rfl ?_
  rintro v9 w4 ⟨rfl, rfl⟩
  show V g k 4 w2 0 0 (kQ g k (fun v w' => v = some (.int (nI 0)) ∧ MdAt g w' m0 (nI 0) tk gN rN tN fn wn gp by9 rD tD tV tT ∧ Fm w w') 0 0) 16 [(0, .ref m0), (1, .int (nI k9)), (2, .int y), (3, .int z)] [.int (nI 0)]
  refine r_if_eq_t (tgt := 31) C dX8_poke_16 (by decide) (by decide) ?_
  refine r_iconst (q := 32) C (nI 0) dX8_poke_31 (by decide) rfl ?_
  exact r_zret C rfl rfl (by decide) (by decide) dX8_poke_32 ⟨rfl, ⟨ad, _, _, _, _, e0, hks.kept (fun t _ _ => ef1 t (by omega)), ((ef1 3 (by omega)).trans h3), ((ef1 4 (by omega)).trans h4), ((ef1 5 (by omega)).trans h5), ((ef1 6 (by omega)).trans h6), ((ef1 7 (by omega)).trans h7), ((ef1 8 (by omega)).trans h8), ((ef1 9 (by omega)).trans h9), ((ef1 10 (by omega)).trans h10), hsc.kept (fun t _ _ => ef1 t (by omega)), ((ef1 16 (by omega)).trans h16), ((ef1 17 (by omega)).trans h17)⟩, fun t ht => ef1 t (by omega)⟩

set_option maxHeartbeats 4000000 in
set_option maxRecDepth 20000 in
theorem y_pk_m {l : Launch} {g : cx_G} {w : wd_T} {c m0 tk gN rN tN : Nat} {fl : Int32} {fn wn : Nat → Nat} {gp by9 rD tD tV tT : Nat → Int32} (hM : MdAt g w m0 fl tk gN rN tN fn wn gp by9 rD tD tV tT) (hI : Iv9 c tk gN rN tN fn wn by9 tD tV tT) {k9 : Nat} (hk9 : k9 < rN) {i : Nat} {z : Int32} (hi : i < 73) (hz : z < nI 1 ∨ nI 255 < z) : Mt l g yX8_poke cX8_poke 4 (some .boolean) 1 0 0 w [.ref m0, .int (nI k9), .int (nI i), .int z] (fun v w' => v = some (.int (nI 0)) ∧ MdAt g w' m0 (nI 0) tk gN rN tN fn wn gp by9 rD tD tV tT ∧ Fm w w') := by
  refine mt_of RX8 "poke" rfl rfl (by decide) (Nat.le_of_ble_eq_true rfl) [(0, .ref m0), (1, .int (nI k9)), (2, .int (nI i)), (3, .int z)] rfl ?_
  intro k hkl C hin
  subst hkl
  obtain ⟨ad, rS, fS, lv, fo, h0, hks, h3, h4, h5, h6, h7, h8, h9, h10, hsc, h16, h17⟩ := id hM
  obtain ⟨i0, i1, i2, i3, i4, i5, i6, i7, i8, i9, i10⟩ := id hI
  refine r_aload_n (q := 1) C 0 dX8_poke_0 rfl rfl ?_
  refine r_iload_n (q := 2) C 1 dX8_poke_1 rfl rfl ?_
  refine r_callV (q := 5) (t := 0) (As := [.int (nI k9)]) (st := []) C koX8 h0 (m_isr_y h0 (by omega) hk9) q908 q905 q907 qp29 q9 rfl ⟨by decide, by decide⟩ (show (parseMethodDescriptor yX8_isRow.desc).map (fun d => d.parameters.length) = some 1 by decide +kernel) (by decide) (by decide) (by decide) (by decide) (Nat.le_of_ble_eq_true rfl) rfl dX8_poke_2 rfl ?_
  rintro v9 w2 ⟨rfl, e0, ef1⟩
  show V g k 4 w2 0 0 (kQ g k (fun v w' => v = some (.int (nI 0)) ∧ MdAt g w' m0 (nI 0) tk gN rN tN fn wn gp by9 rD tD tV tT ∧ Fm w w') 0 0) 5 [(0, .ref m0), (1, .int (nI k9)), (2, .int (nI i)), (3, .int z)] [.int (nI 1)]
  refine r_if_eq_f (q := 8) (tgt := 31) C dX8_poke_5 (by decide) rfl (by decide) ?_
  refine r_iload_n (q := 9) C 2 dX8_poke_8 rfl rfl ?_
  refine r_i2l (q := 10) C dX8_poke_9 rfl ?_
  refine r_tl (show ((nI i).toInt64 : Int64) = lN i from nI_l (by omega)) ?_
  refine r_ldc2 (q := 13) (v := lN 72) C dX8_poke_10 q909 rfl ?_
  refine r_callS (q := 16) (As := [.long (lN i), .long (lN 72)]) (st := []) C (m_in_y (n := i) (b := 72) (by omega) (by decide)) q787 q785 q786 q9 ⟨by decide, by decide⟩ (show (parseMethodDescriptor yX8_isIn.desc).map (fun d => d.parameters.length) = some 2 by decide +kernel) (by decide) (by decide) (by decide) (by decide) (Nat.le_of_ble_eq_true rfl) rfl dX8_poke_13 rfl ?_
  rintro v9 w4 ⟨rfl, rfl⟩
  show V g k 4 w2 0 0 (kQ g k (fun v w' => v = some (.int (nI 0)) ∧ MdAt g w' m0 (nI 0) tk gN rN tN fn wn gp by9 rD tD tV tT ∧ Fm w w') 0 0) 16 [(0, .ref m0), (1, .int (nI k9)), (2, .int (nI i)), (3, .int z)] [.int (nI 1)]
  refine r_if_eq_f (q := 19) (tgt := 31) C dX8_poke_16 (by decide) rfl (by decide) ?_
  refine r_iload_n (q := 20) C 3 dX8_poke_19 rfl rfl ?_
  refine r_iconst (q := 21) C (nI 1) dX8_poke_20 (by decide) rfl ?_
  refine r_icmp_lt (q := 24) (tgt := 31) C dX8_poke_21 (by decide) rfl (fun hc5 => ?_) (fun hc5 => ?_)
  · refine r_iconst (q := 32) C (nI 0) dX8_poke_31 (by decide) rfl ?_
    exact r_zret C rfl rfl (by decide) (by decide) dX8_poke_32 ⟨rfl, ⟨ad, _, _, _, _, e0, hks.kept (fun t _ _ => ef1 t (by omega)), ((ef1 3 (by omega)).trans h3), ((ef1 4 (by omega)).trans h4), ((ef1 5 (by omega)).trans h5), ((ef1 6 (by omega)).trans h6), ((ef1 7 (by omega)).trans h7), ((ef1 8 (by omega)).trans h8), ((ef1 9 (by omega)).trans h9), ((ef1 10 (by omega)).trans h10), hsc.kept (fun t _ _ => ef1 t (by omega)), ((ef1 16 (by omega)).trans h16), ((ef1 17 (by omega)).trans h17)⟩, fun t ht => ef1 t (by omega)⟩
  · refine r_iload_n (q := 25) C 3 dX8_poke_24 rfl rfl ?_
    refine r_sipush (q := 28) C (nI 255) dX8_poke_25 (by decide) rfl ?_
    refine r_icmp_le_f (q := 31) (tgt := 33) C dX8_poke_28 (by decide) rfl (by rcases hz with q | q; exact absurd q hc5; exact Int32.not_le.mpr q) ?_
    refine r_iconst (q := 32) C (nI 0) dX8_poke_31 (by decide) rfl ?_
    exact r_zret C rfl rfl (by decide) (by decide) dX8_poke_32 ⟨rfl, ⟨ad, _, _, _, _, e0, hks.kept (fun t _ _ => ef1 t (by omega)), ((ef1 3 (by omega)).trans h3), ((ef1 4 (by omega)).trans h4), ((ef1 5 (by omega)).trans h5), ((ef1 6 (by omega)).trans h6), ((ef1 7 (by omega)).trans h7), ((ef1 8 (by omega)).trans h8), ((ef1 9 (by omega)).trans h9), ((ef1 10 (by omega)).trans h10), hsc.kept (fun t _ _ => ef1 t (by omega)), ((ef1 16 (by omega)).trans h16), ((ef1 17 (by omega)).trans h17)⟩, fun t ht => ef1 t (by omega)⟩

set_option maxHeartbeats 4000000 in
set_option maxRecDepth 20000 in
theorem y_pk_y {l : Launch} {g : cx_G} {w : wd_T} {c m0 tk gN rN tN : Nat} {fl : Int32} {fn wn : Nat → Nat} {gp by9 rD tD tV tT : Nat → Int32} (hM : MdAt g w m0 fl tk gN rN tN fn wn gp by9 rD tD tV tT) (hI : Iv9 c tk gN rN tN fn wn by9 tD tV tT) {k9 : Nat} (hk9 : k9 < rN) {i : Nat} {z : Int32} (hi : i < 73) (hz1 : ¬ z < nI 1) (hz2 : z ≤ nI 255) : Mt l g yX8_poke cX8_poke 4 (some .boolean) 1 0 0 w [.ref m0, .int (nI k9), .int (nI i), .int z] (fun v w' => v = some (.int (nI 1)) ∧ MdAt g w' m0 (nI 0) tk gN rN tN fn wn gp (upd by9 (73 * k9 + i) (by9 (73 * k9 + i) ^^^ z).toInt8.toInt32) rD tD tV tT ∧ Fm w w') := by
  refine mt_of RX8 "poke" rfl rfl (by decide) (Nat.le_of_ble_eq_true rfl) [(0, .ref m0), (1, .int (nI k9)), (2, .int (nI i)), (3, .int z)] rfl ?_
  intro k hkl C hin
  subst hkl
  obtain ⟨ad, rS, fS, lv, fo, h0, hks, h3, h4, h5, h6, h7, h8, h9, h10, hsc, h16, h17⟩ := id hM
  obtain ⟨i0, i1, i2, i3, i4, i5, i6, i7, i8, i9, i10⟩ := id hI
  refine r_aload_n (q := 1) C 0 dX8_poke_0 rfl rfl ?_
  refine r_iload_n (q := 2) C 1 dX8_poke_1 rfl rfl ?_
  refine r_callV (q := 5) (t := 0) (As := [.int (nI k9)]) (st := []) C koX8 h0 (m_isr_y h0 (by omega) hk9) q908 q905 q907 qp29 q9 rfl ⟨by decide, by decide⟩ (show (parseMethodDescriptor yX8_isRow.desc).map (fun d => d.parameters.length) = some 1 by decide +kernel) (by decide) (by decide) (by decide) (by decide) (Nat.le_of_ble_eq_true rfl) rfl dX8_poke_2 rfl ?_
  rintro v9 w2 ⟨rfl, e0, ef1⟩
  show V g k 4 w2 0 0 (kQ g k (fun v w' => v = some (.int (nI 1)) ∧ MdAt g w' m0 (nI 0) tk gN rN tN fn wn gp (upd by9 (73 * k9 + i) (by9 (73 * k9 + i) ^^^ z).toInt8.toInt32) rD tD tV tT ∧ Fm w w') 0 0) 5 [(0, .ref m0), (1, .int (nI k9)), (2, .int (nI i)), (3, .int z)] [.int (nI 1)]
  refine r_if_eq_f (q := 8) (tgt := 31) C dX8_poke_5 (by decide) rfl (by decide) ?_
  refine r_iload_n (q := 9) C 2 dX8_poke_8 rfl rfl ?_
  refine r_i2l (q := 10) C dX8_poke_9 rfl ?_
  refine r_tl (show ((nI i).toInt64 : Int64) = lN i from nI_l (by omega)) ?_
  refine r_ldc2 (q := 13) (v := lN 72) C dX8_poke_10 q909 rfl ?_
  refine r_callS (q := 16) (As := [.long (lN i), .long (lN 72)]) (st := []) C (m_in_y (n := i) (b := 72) (by omega) (by decide)) q787 q785 q786 q9 ⟨by decide, by decide⟩ (show (parseMethodDescriptor yX8_isIn.desc).map (fun d => d.parameters.length) = some 2 by decide +kernel) (by decide) (by decide) (by decide) (by decide) (Nat.le_of_ble_eq_true rfl) rfl dX8_poke_13 rfl ?_
  rintro v9 w4 ⟨rfl, rfl⟩
  show V g k 4 w2 0 0 (kQ g k (fun v w' => v = some (.int (nI 1)) ∧ MdAt g w' m0 (nI 0) tk gN rN tN fn wn gp (upd by9 (73 * k9 + i) (by9 (73 * k9 + i) ^^^ z).toInt8.toInt32) rD tD tV tT ∧ Fm w w') 0 0) 16 [(0, .ref m0), (1, .int (nI k9)), (2, .int (nI i)), (3, .int z)] [.int (nI 1)]
  refine r_if_eq_f (q := 19) (tgt := 31) C dX8_poke_16 (by decide) rfl (by decide) ?_
  refine r_iload_n (q := 20) C 3 dX8_poke_19 rfl rfl ?_
  refine r_iconst (q := 21) C (nI 1) dX8_poke_20 (by decide) rfl ?_
  refine r_icmp_lt_f (q := 24) (tgt := 31) C dX8_poke_21 (by decide) rfl (hz1) ?_
  refine r_iload_n (q := 25) C 3 dX8_poke_24 rfl rfl ?_
  refine r_sipush (q := 28) C (nI 255) dX8_poke_25 (by decide) rfl ?_
  refine r_icmp_le_t (tgt := 33) C dX8_poke_28 (by decide) (hz2) ?_
  refine r_aload_n (q := 34) C 0 dX8_poke_33 rfl rfl ?_
  refine r_get (q := 37) (t := 0) C koX8 e0 12 (by decide) q712 rfl rfl dX8_poke_34 rfl ?_
  refine r_bipush (q := 39) C (nI 73) dX8_poke_37 (by decide) rfl ?_
  refine r_iload_n (q := 40) C 1 dX8_poke_39 rfl rfl ?_
  refine r_imul (q := 41) C dX8_poke_40 rfl ?_
  refine r_ti (show ((nI 73) * (nI k9) : Int32) = nI (73 * k9) from pk_mul 73 k9) ?_
  refine r_iload_n (q := 42) C 2 dX8_poke_41 rfl rfl ?_
  refine r_iadd (q := 43) C dX8_poke_42 rfl ?_
  refine r_ti (show ((nI (73 * k9)) + (nI i) : Int32) = nI (73 * k9 + i) from nI_add (73 * k9) i) ?_
  refine r_aload_n (q := 44) C 0 dX8_poke_43 rfl rfl ?_
  refine r_get (q := 47) (t := 0) C koX8 e0 12 (by decide) q712 rfl rfl dX8_poke_44 rfl ?_
  refine r_bipush (q := 49) C (nI 73) dX8_poke_47 (by decide) rfl ?_
  refine r_iload_n (q := 50) C 1 dX8_poke_49 rfl rfl ?_
  refine r_imul (q := 51) C dX8_poke_50 rfl ?_
  refine r_ti (show ((nI 73) * (nI k9) : Int32) = nI (73 * k9) from pk_mul 73 k9) ?_
  refine r_iload_n (q := 52) C 2 dX8_poke_51 rfl rfl ?_
  refine r_iadd (q := 53) C dX8_poke_52 rfl ?_
  refine r_ti (show ((nI (73 * k9)) + (nI i) : Int32) = nI (73 * k9 + i) from nI_add (73 * k9) i) ?_
  refine r_bald (q := 54) (t := 9) C ((ef1 9 (by omega)).trans h9) (73 * k9 + i) rfl (by omega) (by decide) dX8_poke_53 rfl ?_
  refine r_iload_n (q := 55) C 3 dX8_poke_54 rfl rfl ?_
  refine r_ixor (q := 56) C dX8_poke_55 rfl ?_
  refine r_i2b (q := 57) C dX8_poke_56 rfl ?_
  refine r_bast8 (q := 58) (t := 9) (w' := wd_set w2 9 (ad 9) (aB g 14600 (upd by9 (73 * k9 + i) ((by9 (73 * k9 + i)) ^^^ z).toInt8.toInt32))) C ((ef1 9 (by omega)).trans h9) (73 * k9 + i) rfl (by omega) (by decide) dX8_poke_57 rfl rfl ?_
  refine r_iconst (q := 59) C (nI 1) dX8_poke_58 (by decide) rfl ?_
  exact r_zret C rfl rfl (by decide) (by decide) dX8_poke_59 ⟨rfl, ⟨ad, _, _, _, _, ((wd_ne (by decide)).trans e0), hks.kept (fun t _ _ => (wd_ne (by omega)).trans (ef1 t (by omega))), ((wd_ne (by decide)).trans ((ef1 3 (by omega)).trans h3)), ((wd_ne (by decide)).trans ((ef1 4 (by omega)).trans h4)), ((wd_ne (by decide)).trans ((ef1 5 (by omega)).trans h5)), ((wd_ne (by decide)).trans ((ef1 6 (by omega)).trans h6)), ((wd_ne (by decide)).trans ((ef1 7 (by omega)).trans h7)), ((wd_ne (by decide)).trans ((ef1 8 (by omega)).trans h8)), wd_eq, ((wd_ne (by decide)).trans ((ef1 10 (by omega)).trans h10)), hsc.kept (fun t _ _ => (wd_ne (by omega)).trans (ef1 t (by omega))), ((wd_ne (by decide)).trans ((ef1 16 (by omega)).trans h16)), ((wd_ne (by decide)).trans ((ef1 17 (by omega)).trans h17))⟩, fun t ht => (wd_ne (by omega)).trans (ef1 t (by omega))⟩

set_option maxHeartbeats 4000000 in
set_option maxRecDepth 20000 in
theorem y_dig_n {l : Launch} {g : cx_G} {w : wd_T} {c m0 tk gN rN tN : Nat} {fl : Int32} {fn wn : Nat → Nat} {gp by9 rD tD tV tT : Nat → Int32} (hM : MdAt g w m0 fl tk gN rN tN fn wn gp by9 rD tD tV tT) (hI : Iv9 c tk gN rN tN fn wn by9 tD tV tT) {x : Int32} (hx : x < 0 ∨ nI rN ≤ x) {y : Int32} : Mt l g yX8_digest cX8_digest 3 (some .int) 1 0 0 w [.ref m0, .int x, .int y] (fun v w' => v = some (.int (-1)) ∧ MdAt g w' m0 (nI 0) tk gN rN tN fn wn gp by9 rD tD tV tT ∧ Fm w w') := by
  refine mt_of RX8 "digest" rfl rfl (by decide) (Nat.le_of_ble_eq_true rfl) [(0, .ref m0), (1, .int x), (2, .int y)] rfl ?_
  intro k hkl C hin
  subst hkl
  obtain ⟨ad, rS, fS, lv, fo, h0, hks, h3, h4, h5, h6, h7, h8, h9, h10, hsc, h16, h17⟩ := id hM
  obtain ⟨i0, i1, i2, i3, i4, i5, i6, i7, i8, i9, i10⟩ := id hI
  refine r_aload_n (q := 1) C 0 dX8_digest_0 rfl rfl ?_
  refine r_iload_n (q := 2) C 1 dX8_digest_1 rfl rfl ?_
  refine r_callV (q := 5) (t := 0) (As := [.int x]) (st := []) C koX8 h0 (m_isr_n h0 (by omega) hx) q908 q905 q907 qp29 q9 rfl ⟨by decide, by decide⟩ (show (parseMethodDescriptor yX8_isRow.desc).map (fun d => d.parameters.length) = some 1 by decide +kernel) (by decide) (by decide) (by decide) (by decide) (Nat.le_of_ble_eq_true rfl) rfl dX8_digest_2 rfl ?_
  rintro v9 w2 ⟨rfl, e0, ef1⟩
  show V g k 3 w2 0 0 (kQ g k (fun v w' => v = some (.int (-1)) ∧ MdAt g w' m0 (nI 0) tk gN rN tN fn wn gp by9 rD tD tV tT ∧ Fm w w') 0 0) 5 [(0, .ref m0), (1, .int x), (2, .int y)] [.int (nI 0)]
  refine r_if_eq_t (tgt := 40) C dX8_digest_5 (by decide) (by decide) ?_
  refine r_iconst (q := 41) C ((-1)) dX8_digest_40 (by decide) rfl ?_
  exact r_iret C rfl (by decide) (by decide) dX8_digest_41 ⟨rfl, ⟨ad, _, _, _, _, e0, hks.kept (fun t _ _ => ef1 t (by omega)), ((ef1 3 (by omega)).trans h3), ((ef1 4 (by omega)).trans h4), ((ef1 5 (by omega)).trans h5), ((ef1 6 (by omega)).trans h6), ((ef1 7 (by omega)).trans h7), ((ef1 8 (by omega)).trans h8), ((ef1 9 (by omega)).trans h9), ((ef1 10 (by omega)).trans h10), hsc.kept (fun t _ _ => ef1 t (by omega)), ((ef1 16 (by omega)).trans h16), ((ef1 17 (by omega)).trans h17)⟩, fun t ht => ef1 t (by omega)⟩

set_option maxHeartbeats 4000000 in
set_option maxRecDepth 20000 in
theorem y_dig_i {l : Launch} {g : cx_G} {w : wd_T} {c m0 tk gN rN tN : Nat} {fl : Int32} {fn wn : Nat → Nat} {gp by9 rD tD tV tT : Nat → Int32} (hM : MdAt g w m0 fl tk gN rN tN fn wn gp by9 rD tD tV tT) (hI : Iv9 c tk gN rN tN fn wn by9 tD tV tT) {k9 : Nat} (hk9 : k9 < rN) {y : Int32} (hy : y < 0 ∨ nI 32 ≤ y) : Mt l g yX8_digest cX8_digest 3 (some .int) 1 0 0 w [.ref m0, .int (nI k9), .int y] (fun v w' => v = some (.int (-1)) ∧ MdAt g w' m0 (nI 0) tk gN rN tN fn wn gp by9 rD tD tV tT ∧ Fm w w') := by
  refine mt_of RX8 "digest" rfl rfl (by decide) (Nat.le_of_ble_eq_true rfl) [(0, .ref m0), (1, .int (nI k9)), (2, .int y)] rfl ?_
  intro k hkl C hin
  subst hkl
  obtain ⟨ad, rS, fS, lv, fo, h0, hks, h3, h4, h5, h6, h7, h8, h9, h10, hsc, h16, h17⟩ := id hM
  obtain ⟨i0, i1, i2, i3, i4, i5, i6, i7, i8, i9, i10⟩ := id hI
  refine r_aload_n (q := 1) C 0 dX8_digest_0 rfl rfl ?_
  refine r_iload_n (q := 2) C 1 dX8_digest_1 rfl rfl ?_
  refine r_callV (q := 5) (t := 0) (As := [.int (nI k9)]) (st := []) C koX8 h0 (m_isr_y h0 (by omega) hk9) q908 q905 q907 qp29 q9 rfl ⟨by decide, by decide⟩ (show (parseMethodDescriptor yX8_isRow.desc).map (fun d => d.parameters.length) = some 1 by decide +kernel) (by decide) (by decide) (by decide) (by decide) (Nat.le_of_ble_eq_true rfl) rfl dX8_digest_2 rfl ?_
  rintro v9 w2 ⟨rfl, e0, ef1⟩
  show V g k 3 w2 0 0 (kQ g k (fun v w' => v = some (.int (-1)) ∧ MdAt g w' m0 (nI 0) tk gN rN tN fn wn gp by9 rD tD tV tT ∧ Fm w w') 0 0) 5 [(0, .ref m0), (1, .int (nI k9)), (2, .int y)] [.int (nI 1)]
  refine r_if_eq_f (q := 8) (tgt := 40) C dX8_digest_5 (by decide) rfl (by decide) ?_
  refine r_iload_n (q := 9) C 2 dX8_digest_8 rfl rfl ?_
  refine r_i2l (q := 10) C dX8_digest_9 rfl ?_
  refine r_ldc2 (q := 13) (v := lN 31) C dX8_digest_10 q918 rfl ?_
  refine r_callS (q := 16) (As := [.long y.toInt64, .long (lN 31)]) (st := []) C (m_in_n (b := 31) (in_i (by decide) hy) (by decide)) q787 q785 q786 q9 ⟨by decide, by decide⟩ (show (parseMethodDescriptor yX8_isIn.desc).map (fun d => d.parameters.length) = some 2 by decide +kernel) (by decide) (by decide) (by decide) (by decide) (Nat.le_of_ble_eq_true rfl) rfl dX8_digest_13 rfl ?_
  rintro v9 w4 ⟨rfl, rfl⟩
  show V g k 3 w2 0 0 (kQ g k (fun v w' => v = some (.int (-1)) ∧ MdAt g w' m0 (nI 0) tk gN rN tN fn wn gp by9 rD tD tV tT ∧ Fm w w') 0 0) 16 [(0, .ref m0), (1, .int (nI k9)), (2, .int y)] [.int (nI 0)]
  refine r_if_eq_t (tgt := 40) C dX8_digest_16 (by decide) (by decide) ?_
  refine r_iconst (q := 41) C ((-1)) dX8_digest_40 (by decide) rfl ?_
  exact r_iret C rfl (by decide) (by decide) dX8_digest_41 ⟨rfl, ⟨ad, _, _, _, _, e0, hks.kept (fun t _ _ => ef1 t (by omega)), ((ef1 3 (by omega)).trans h3), ((ef1 4 (by omega)).trans h4), ((ef1 5 (by omega)).trans h5), ((ef1 6 (by omega)).trans h6), ((ef1 7 (by omega)).trans h7), ((ef1 8 (by omega)).trans h8), ((ef1 9 (by omega)).trans h9), ((ef1 10 (by omega)).trans h10), hsc.kept (fun t _ _ => ef1 t (by omega)), ((ef1 16 (by omega)).trans h16), ((ef1 17 (by omega)).trans h17)⟩, fun t ht => ef1 t (by omega)⟩

set_option maxHeartbeats 4000000 in
set_option maxRecDepth 20000 in
theorem y_dig_y {l : Launch} {g : cx_G} {w : wd_T} {c m0 tk gN rN tN : Nat} {fl : Int32} {fn wn : Nat → Nat} {gp by9 rD tD tV tT : Nat → Int32} (hM : MdAt g w m0 fl tk gN rN tN fn wn gp by9 rD tD tV tT) (hI : Iv9 c tk gN rN tN fn wn by9 tD tV tT) {k9 : Nat} (hk9 : k9 < rN) {i : Nat} (hi : i < 32) : Mt l g yX8_digest cX8_digest 3 (some .int) 1 0 0 w [.ref m0, .int (nI k9), .int (nI i)] (fun v w' => v = some (.int (by9 (73 * k9 + (41 + i)) &&& nI 255)) ∧ MdAt g w' m0 (nI 0) tk gN rN tN fn wn gp by9 rD tD tV tT ∧ Fm w w') := by
  refine mt_of RX8 "digest" rfl rfl (by decide) (Nat.le_of_ble_eq_true rfl) [(0, .ref m0), (1, .int (nI k9)), (2, .int (nI i))] rfl ?_
  intro k hkl C hin
  subst hkl
  obtain ⟨ad, rS, fS, lv, fo, h0, hks, h3, h4, h5, h6, h7, h8, h9, h10, hsc, h16, h17⟩ := id hM
  obtain ⟨i0, i1, i2, i3, i4, i5, i6, i7, i8, i9, i10⟩ := id hI
  refine r_aload_n (q := 1) C 0 dX8_digest_0 rfl rfl ?_
  refine r_iload_n (q := 2) C 1 dX8_digest_1 rfl rfl ?_
  refine r_callV (q := 5) (t := 0) (As := [.int (nI k9)]) (st := []) C koX8 h0 (m_isr_y h0 (by omega) hk9) q908 q905 q907 qp29 q9 rfl ⟨by decide, by decide⟩ (show (parseMethodDescriptor yX8_isRow.desc).map (fun d => d.parameters.length) = some 1 by decide +kernel) (by decide) (by decide) (by decide) (by decide) (Nat.le_of_ble_eq_true rfl) rfl dX8_digest_2 rfl ?_
  rintro v9 w2 ⟨rfl, e0, ef1⟩
  show V g k 3 w2 0 0 (kQ g k (fun v w' => v = some (.int (by9 (73 * k9 + (41 + i)) &&& nI 255)) ∧ MdAt g w' m0 (nI 0) tk gN rN tN fn wn gp by9 rD tD tV tT ∧ Fm w w') 0 0) 5 [(0, .ref m0), (1, .int (nI k9)), (2, .int (nI i))] [.int (nI 1)]
  refine r_if_eq_f (q := 8) (tgt := 40) C dX8_digest_5 (by decide) rfl (by decide) ?_
  refine r_iload_n (q := 9) C 2 dX8_digest_8 rfl rfl ?_
  refine r_i2l (q := 10) C dX8_digest_9 rfl ?_
  refine r_tl (show ((nI i).toInt64 : Int64) = lN i from nI_l (by omega)) ?_
  refine r_ldc2 (q := 13) (v := lN 31) C dX8_digest_10 q918 rfl ?_
  refine r_callS (q := 16) (As := [.long (lN i), .long (lN 31)]) (st := []) C (m_in_y (n := i) (b := 31) (by omega) (by decide)) q787 q785 q786 q9 ⟨by decide, by decide⟩ (show (parseMethodDescriptor yX8_isIn.desc).map (fun d => d.parameters.length) = some 2 by decide +kernel) (by decide) (by decide) (by decide) (by decide) (Nat.le_of_ble_eq_true rfl) rfl dX8_digest_13 rfl ?_
  rintro v9 w4 ⟨rfl, rfl⟩
  show V g k 3 w2 0 0 (kQ g k (fun v w' => v = some (.int (by9 (73 * k9 + (41 + i)) &&& nI 255)) ∧ MdAt g w' m0 (nI 0) tk gN rN tN fn wn gp by9 rD tD tV tT ∧ Fm w w') 0 0) 16 [(0, .ref m0), (1, .int (nI k9)), (2, .int (nI i))] [.int (nI 1)]
  refine r_if_eq_f (q := 19) (tgt := 40) C dX8_digest_16 (by decide) rfl (by decide) ?_
  refine r_aload_n (q := 20) C 0 dX8_digest_19 rfl rfl ?_
  refine r_get (q := 23) (t := 0) C koX8 e0 12 (by decide) q712 rfl rfl dX8_digest_20 rfl ?_
  refine r_bipush (q := 25) C (nI 73) dX8_digest_23 (by decide) rfl ?_
  refine r_iload_n (q := 26) C 1 dX8_digest_25 rfl rfl ?_
  refine r_imul (q := 27) C dX8_digest_26 rfl ?_
  refine r_ti (show ((nI 73) * (nI k9) : Int32) = nI (73 * k9) from pk_mul 73 k9) ?_
  refine r_bipush (q := 29) C (nI 41) dX8_digest_27 (by decide) rfl ?_
  refine r_iadd (q := 30) C dX8_digest_29 rfl ?_
  refine r_ti (show ((nI (73 * k9)) + (nI 41) : Int32) = nI (73 * k9 + 41) from nI_add (73 * k9) 41) ?_
  refine r_iload_n (q := 31) C 2 dX8_digest_30 rfl rfl ?_
  refine r_iadd (q := 32) C dX8_digest_31 rfl ?_
  refine r_ti (show ((nI (73 * k9 + 41)) + (nI i) : Int32) = nI (73 * k9 + 41 + i) from nI_add (73 * k9 + 41) i) ?_
  refine r_bald (q := 33) (t := 9) C ((ef1 9 (by omega)).trans h9) (73 * k9 + 41 + i) rfl (by omega) (by decide) dX8_digest_32 rfl ?_
  refine r_sipush (q := 36) C (nI 255) dX8_digest_33 (by decide) rfl ?_
  refine r_iand (q := 37) C dX8_digest_36 rfl ?_
  refine r_goto (tgt := 41) C dX8_digest_37 (by decide) ?_
  exact r_iret C rfl (by decide) (by decide) dX8_digest_41 ⟨by rw [← Nat.add_assoc], ⟨ad, _, _, _, _, e0, hks.kept (fun t _ _ => ef1 t (by omega)), ((ef1 3 (by omega)).trans h3), ((ef1 4 (by omega)).trans h4), ((ef1 5 (by omega)).trans h5), ((ef1 6 (by omega)).trans h6), ((ef1 7 (by omega)).trans h7), ((ef1 8 (by omega)).trans h8), ((ef1 9 (by omega)).trans h9), ((ef1 10 (by omega)).trans h10), hsc.kept (fun t _ _ => ef1 t (by omega)), ((ef1 16 (by omega)).trans h16), ((ef1 17 (by omega)).trans h17)⟩, fun t ht => ef1 t (by omega)⟩

set_option maxHeartbeats 4000000 in
set_option maxRecDepth 20000 in
theorem y_thrown {l : Launch} {g : cx_G} {w : wd_T} {c m0 tk gN rN tN : Nat} {fl : Int32} {fn wn : Nat → Nat} {gp by9 rD tD tV tT : Nat → Int32} (hM : MdAt g w m0 fl tk gN rN tN fn wn gp by9 rD tD tV tT) (hI : Iv9 c tk gN rN tN fn wn by9 tD tV tT) : Mt l g yX8_thrown cX8_thrown 1 (some .int) 0 0 0 w [.ref m0] (fun v w' => v = some (.int fl) ∧ w = w') := by
  refine mt_of RX8 "thrown" rfl rfl (by decide) (Nat.le_of_ble_eq_true rfl) [(0, .ref m0)] rfl ?_
  intro k hkl C hin
  subst hkl
  obtain ⟨ad, rS, fS, lv, fo, h0, hks, h3, h4, h5, h6, h7, h8, h9, h10, hsc, h16, h17⟩ := id hM
  obtain ⟨i0, i1, i2, i3, i4, i5, i6, i7, i8, i9, i10⟩ := id hI
  refine r_aload_n (q := 1) C 0 dX8_thrown_0 rfl rfl ?_
  refine r_get (q := 4) (t := 0) C koX8 h0 15 (by decide) q715 rfl rfl dX8_thrown_1 rfl ?_
  exact r_iret C rfl (by decide) (by decide) dX8_thrown_4 ⟨rfl, rfl⟩
