/-! the reference: at behind a frame, share -/
theorem tlS_nat {wn : Nat → Nat} {k9 : Nat} (h : ∀ p, wn p ≤ 1000000) : ∀ n, ∃ s9, s9 ≤ n * 1000000 ∧ tlS (cw9 wn k9) n = lN s9
  | 0 => ⟨0, Nat.zero_le _, rfl⟩
  | n + 1 => by
    obtain ⟨s9, a, b⟩ := tlS_nat (k9 := k9) h n
    have c := h (8 * k9 + n)
    exact ⟨s9 + wn (8 * k9 + n), by omega, by rw [tlS, b]; exact lN_add s9 _⟩
set_option maxHeartbeats 4000000 in
set_option maxRecDepth 20000 in
theorem m_at_y {l : Launch} {g : cx_G} {w : wd_T} {m0 : Nat} {ad : Nat → Nat} {tC nu rC gC fl rS fS : Int32} {fn : Nat → Nat} {tk k9 i : Nat} (h0 : w 0 = some (m0, mo ad tC (nI tk) nu gC rC fl rS fS)) (h6 : w 6 = some (ad 6, aL g 1800 (fun p => lN (fn p)))) (hn : tk ≤ 150) (hk9 : k9 < tk) (n5 : fn (9 * k9 + 4) ≤ fn (9 * k9 + 3)) (hi : i < 9) : Mt l g yX8_at cX8_at 3 (some .long) 1 0 0 w [.ref m0, .int (nI k9), .int (nI i)] (fun v w' => v = some (.long (lN (fv9 fn k9 i))) ∧ w' 0 = some (m0, mo ad tC (nI tk) nu gC rC (nI 0) rS fS) ∧ ∀ t, t ≠ 0 → w' t = w t) := by
  refine mt_of RX8 "at" rfl rfl (by decide) (Nat.le_of_ble_eq_true rfl) [(0, .ref m0), (1, .int (nI k9)), (2, .int (nI i))] rfl ?_
  intro k hkl C hin
  subst hkl
  refine r_aload_n (q := 1) C 0 dX8_at_0 rfl rfl ?_
  refine r_iload_n (q := 2) C 1 dX8_at_1 rfl rfl ?_
  refine r_callV (q := 5) (t := 0) (As := [.int (nI k9)]) (st := []) C koX8 h0 (m_ist_y h0 (by omega) hk9) q847 q844 q846 qp25 q9 rfl ⟨by decide, by decide⟩ (show (parseMethodDescriptor yX8_isTicket.desc).map (fun d => d.parameters.length) = some 1 by decide +kernel) (by decide) (by decide) (by decide) (by decide) (Nat.le_of_ble_eq_true rfl) rfl dX8_at_2 rfl ?_
  rintro v9 w2 ⟨rfl, e0, ef1⟩
  show V g k 3 w2 0 0 (kQ g k (fun v w' => v = some (.long (lN (fv9 fn k9 i))) ∧ w' 0 = some (m0, mo ad tC (nI tk) nu gC rC (nI 0) rS fS) ∧ ∀ t, t ≠ 0 → w' t = w t) 0 0) 5 [(0, .ref m0), (1, .int (nI k9)), (2, .int (nI i))] [.int (nI 1)]
  refine r_if_eq_f (q := 8) (tgt := 18) C dX8_at_5 (by decide) rfl (by decide) ?_
  refine r_iload_n (q := 9) C 2 dX8_at_8 rfl rfl ?_
  refine r_if_lt_f (q := 12) (tgt := 18) C dX8_at_9 (by decide) rfl (nI_pos (by omega)) ?_
  refine r_iload_n (q := 13) C 2 dX8_at_12 rfl rfl ?_
  refine r_bipush (q := 15) C (nI 8) dX8_at_13 (by decide) rfl ?_
  refine r_icmp_le_t (tgt := 22) C dX8_at_15 (by decide) ((nI_leI (a := i) (b := 8) (by omega) (by omega)).mpr (by omega)) ?_
  refine r_iload_n (q := 23) C 2 dX8_at_22 rfl rfl ?_
  refine r_iconst (q := 24) C (nI 5) dX8_at_23 (by decide) rfl ?_
  refine r_icmp_ne (q := 27) (tgt := 53) C dX8_at_24 (by decide) rfl (fun hc4 => ?_) (fun hc4 => ?_)
  · have hc4 : ¬ i = 5 := fun z => hc4 ((nI_eq (a := i) (b := 5) (by omega) (by omega)).mpr z)
    refine r_aload_n (q := 54) C 0 dX8_at_53 rfl rfl ?_
    refine r_get (q := 57) (t := 0) C koX8 e0 6 (by decide) q706 rfl rfl dX8_at_54 rfl ?_
    refine r_bipush (q := 59) C (nI 9) dX8_at_57 (by decide) rfl ?_
    refine r_iload_n (q := 60) C 1 dX8_at_59 rfl rfl ?_
    refine r_imul (q := 61) C dX8_at_60 rfl ?_
    refine r_ti (show ((nI 9) * (nI k9) : Int32) = nI (9 * k9) from pk_mul 9 k9) ?_
    refine r_iload_n (q := 62) C 2 dX8_at_61 rfl rfl ?_
    refine r_iadd (q := 63) C dX8_at_62 rfl ?_
    refine r_ti (show ((nI (9 * k9)) + (nI i) : Int32) = nI (9 * k9 + i) from nI_add (9 * k9) i) ?_
    refine r_lald (q := 64) (t := 6) C ((ef1 6 (by omega)).trans h6) (9 * k9 + i) rfl (by omega) (by decide) dX8_at_63 rfl ?_
    refine r_tl (show ((fun p => lN (fn p)) (9 * k9 + i) : Int64) = lN (fv9 fn k9 i) from by unfold fv9; rw [if_neg hc4]) ?_
    exact r_lret C rfl (by decide) (by decide) dX8_at_64 ⟨rfl, e0, ef1⟩
  · have hc4 : i = 5 := (nI_eq (a := i) (b := 5) (by omega) (by omega)).mp hc4
    subst hc4
    refine r_aload_n (q := 28) C 0 dX8_at_27 rfl rfl ?_
    refine r_get (q := 31) (t := 0) C koX8 e0 6 (by decide) q706 rfl rfl dX8_at_28 rfl ?_
    refine r_bipush (q := 33) C (nI 9) dX8_at_31 (by decide) rfl ?_
    refine r_iload_n (q := 34) C 1 dX8_at_33 rfl rfl ?_
    refine r_imul (q := 35) C dX8_at_34 rfl ?_
    refine r_ti (show ((nI 9) * (nI k9) : Int32) = nI (9 * k9) from pk_mul 9 k9) ?_
    refine r_iconst (q := 36) C (nI 3) dX8_at_35 (by decide) rfl ?_
    refine r_iadd (q := 37) C dX8_at_36 rfl ?_
    refine r_ti (show ((nI (9 * k9)) + (nI 3) : Int32) = nI (9 * k9 + 3) from nI_add (9 * k9) 3) ?_
    refine r_lald (q := 38) (t := 6) C ((ef1 6 (by omega)).trans h6) (9 * k9 + 3) rfl (by omega) (by decide) dX8_at_37 rfl ?_
    refine r_tl (show ((fun p => lN (fn p)) (9 * k9 + 3) : Int64) = lN (fn (9 * k9 + 3)) from rfl) ?_
    refine r_aload_n (q := 39) C 0 dX8_at_38 rfl rfl ?_
    refine r_get (q := 42) (t := 0) C koX8 e0 6 (by decide) q706 rfl rfl dX8_at_39 rfl ?_
    refine r_bipush (q := 44) C (nI 9) dX8_at_42 (by decide) rfl ?_
    refine r_iload_n (q := 45) C 1 dX8_at_44 rfl rfl ?_
    refine r_imul (q := 46) C dX8_at_45 rfl ?_
    refine r_ti (show ((nI 9) * (nI k9) : Int32) = nI (9 * k9) from pk_mul 9 k9) ?_
    refine r_iconst (q := 47) C (nI 4) dX8_at_46 (by decide) rfl ?_
    refine r_iadd (q := 48) C dX8_at_47 rfl ?_
    refine r_ti (show ((nI (9 * k9)) + (nI 4) : Int32) = nI (9 * k9 + 4) from nI_add (9 * k9) 4) ?_
    refine r_lald (q := 49) (t := 6) C ((ef1 6 (by omega)).trans h6) (9 * k9 + 4) rfl (by omega) (by decide) dX8_at_48 rfl ?_
    refine r_tl (show ((fun p => lN (fn p)) (9 * k9 + 4) : Int64) = lN (fn (9 * k9 + 4)) from rfl) ?_
    refine r_lsub (q := 50) C dX8_at_49 rfl ?_
    refine r_tl (show ((lN (fn (9 * k9 + 3))) - (lN (fn (9 * k9 + 4))) : Int64) = lN (fn (9 * k9 + 3) - (fn (9 * k9 + 4))) from lN_sub (by omega)) ?_
    refine r_goto (tgt := 64) C dX8_at_50 (by decide) ?_
    exact r_lret C rfl (by decide) (by decide) dX8_at_64 ⟨rfl, e0, ef1⟩

set_option maxHeartbeats 4000000 in
set_option maxRecDepth 20000 in
theorem y_shr_n {l : Launch} {g : cx_G} {w : wd_T} {c m0 tk gN rN tN : Nat} {fl : Int32} {fn wn : Nat → Nat} {gp by9 rD tD tV tT : Nat → Int32} (hM : MdAt g w m0 fl tk gN rN tN fn wn gp by9 rD tD tV tT) (hI : Iv9 c tk gN rN tN fn wn by9 tD tV tT) {x : Int32} (hx : x < 0 ∨ nI tk ≤ x) {y : Int32} : Mt l g yX8_share cX8_share 16 (some .long) 2 0 0 w [.ref m0, .int x, .int y] (fun v w' => v = some (.long (-1)) ∧ MdAt g w' m0 (nI 0) tk gN rN tN fn wn gp by9 rD tD tV tT ∧ Fm w w') := by
  refine mt_of RX8 "share" rfl rfl (by decide) (Nat.le_of_ble_eq_true rfl) [(0, .ref m0), (1, .int x), (2, .int y)] rfl ?_
  intro k hkl C hin
  subst hkl
  obtain ⟨ad, rS, fS, lv, fo, h0, hks, h3, h4, h5, h6, h7, h8, h9, h10, hsc, h16, h17⟩ := id hM
  obtain ⟨i0, i1, i2, i3, i4, i5, i6, i7, i8, i9, i10⟩ := id hI
  refine r_aload_n (q := 1) C 0 dX8_share_0 rfl rfl ?_
  refine r_iload_n (q := 2) C 1 dX8_share_1 rfl rfl ?_
  refine r_callV (q := 5) (t := 0) (As := [.int x]) (st := []) C koX8 h0 (m_ist_n h0 (by omega) hx) q847 q844 q846 qp25 q9 rfl ⟨by decide, by decide⟩ (show (parseMethodDescriptor yX8_isTicket.desc).map (fun d => d.parameters.length) = some 1 by decide +kernel) (by decide) (by decide) (by decide) (by decide) (Nat.le_of_ble_eq_true rfl) rfl dX8_share_2 rfl ?_
  rintro v9 w2 ⟨rfl, e0, ef1⟩
  show V g k 16 w2 0 0 (kQ g k (fun v w' => v = some (.long (-1)) ∧ MdAt g w' m0 (nI 0) tk gN rN tN fn wn gp by9 rD tD tV tT ∧ Fm w w') 0 0) 5 [(0, .ref m0), (1, .int x), (2, .int y)] [.int (nI 0)]
  refine r_if_eq_t (tgt := 19) C dX8_share_5 (by decide) (by decide) ?_
  refine r_ldc2 (q := 22) (v := (-1)) C dX8_share_19 q800 rfl ?_
  exact r_lret C rfl (by decide) (by decide) dX8_share_22 ⟨rfl, ⟨ad, _, _, _, _, e0, hks.kept (fun t _ _ => ef1 t (by omega)), ((ef1 3 (by omega)).trans h3), ((ef1 4 (by omega)).trans h4), ((ef1 5 (by omega)).trans h5), ((ef1 6 (by omega)).trans h6), ((ef1 7 (by omega)).trans h7), ((ef1 8 (by omega)).trans h8), ((ef1 9 (by omega)).trans h9), ((ef1 10 (by omega)).trans h10), hsc.kept (fun t _ _ => ef1 t (by omega)), ((ef1 16 (by omega)).trans h16), ((ef1 17 (by omega)).trans h17)⟩, fun t ht => ef1 t (by omega)⟩

set_option maxHeartbeats 4000000 in
set_option maxRecDepth 20000 in
theorem y_shr_c {l : Launch} {g : cx_G} {w : wd_T} {c m0 tk gN rN tN : Nat} {fl : Int32} {fn wn : Nat → Nat} {gp by9 rD tD tV tT : Nat → Int32} (hM : MdAt g w m0 fl tk gN rN tN fn wn gp by9 rD tD tV tT) (hI : Iv9 c tk gN rN tN fn wn by9 tD tV tT) {k9 : Nat} (hk9 : k9 < tk) {y : Int32} (hy : y < 0 ∨ nI 8 ≤ y) : Mt l g yX8_share cX8_share 16 (some .long) 2 0 0 w [.ref m0, .int (nI k9), .int y] (fun v w' => v = some (.long (-1)) ∧ MdAt g w' m0 (nI 0) tk gN rN tN fn wn gp by9 rD tD tV tT ∧ Fm w w') := by
  refine mt_of RX8 "share" rfl rfl (by decide) (Nat.le_of_ble_eq_true rfl) [(0, .ref m0), (1, .int (nI k9)), (2, .int y)] rfl ?_
  intro k hkl C hin
  subst hkl
  obtain ⟨ad, rS, fS, lv, fo, h0, hks, h3, h4, h5, h6, h7, h8, h9, h10, hsc, h16, h17⟩ := id hM
  obtain ⟨i0, i1, i2, i3, i4, i5, i6, i7, i8, i9, i10⟩ := id hI
  refine r_aload_n (q := 1) C 0 dX8_share_0 rfl rfl ?_
  refine r_iload_n (q := 2) C 1 dX8_share_1 rfl rfl ?_
  refine r_callV (q := 5) (t := 0) (As := [.int (nI k9)]) (st := []) C koX8 h0 (m_ist_y h0 (by omega) hk9) q847 q844 q846 qp25 q9 rfl ⟨by decide, by decide⟩ (show (parseMethodDescriptor yX8_isTicket.desc).map (fun d => d.parameters.length) = some 1 by decide +kernel) (by decide) (by decide) (by decide) (by decide) (Nat.le_of_ble_eq_true rfl) rfl dX8_share_2 rfl ?_
  rintro v9 w2 ⟨rfl, e0, ef1⟩
  show V g k 16 w2 0 0 (kQ g k (fun v w' => v = some (.long (-1)) ∧ MdAt g w' m0 (nI 0) tk gN rN tN fn wn gp by9 rD tD tV tT ∧ Fm w w') 0 0) 5 [(0, .ref m0), (1, .int (nI k9)), (2, .int y)] [.int (nI 1)]
  refine r_if_eq_f (q := 8) (tgt := 19) C dX8_share_5 (by decide) rfl (by decide) ?_
  refine r_iload_n (q := 9) C 2 dX8_share_8 rfl rfl ?_
  refine r_i2l (q := 10) C dX8_share_9 rfl ?_
  refine r_ldc2 (q := 13) (v := lN 7) C dX8_share_10 q880 rfl ?_
  refine r_callS (q := 16) (As := [.long y.toInt64, .long (lN 7)]) (st := []) C (m_in_n (b := 7) (in_i (by decide) hy) (by decide)) q787 q785 q786 q9 ⟨by decide, by decide⟩ (show (parseMethodDescriptor yX8_isIn.desc).map (fun d => d.parameters.length) = some 2 by decide +kernel) (by decide) (by decide) (by decide) (by decide) (Nat.le_of_ble_eq_true rfl) rfl dX8_share_13 rfl ?_
  rintro v9 w4 ⟨rfl, rfl⟩
  show V g k 16 w2 0 0 (kQ g k (fun v w' => v = some (.long (-1)) ∧ MdAt g w' m0 (nI 0) tk gN rN tN fn wn gp by9 rD tD tV tT ∧ Fm w w') 0 0) 16 [(0, .ref m0), (1, .int (nI k9)), (2, .int y)] [.int (nI 0)]
  refine r_if_ne_f (q := 19) (tgt := 23) C dX8_share_16 (by decide) rfl (by decide) ?_
  refine r_ldc2 (q := 22) (v := (-1)) C dX8_share_19 q800 rfl ?_
  exact r_lret C rfl (by decide) (by decide) dX8_share_22 ⟨rfl, ⟨ad, _, _, _, _, e0, hks.kept (fun t _ _ => ef1 t (by omega)), ((ef1 3 (by omega)).trans h3), ((ef1 4 (by omega)).trans h4), ((ef1 5 (by omega)).trans h5), ((ef1 6 (by omega)).trans h6), ((ef1 7 (by omega)).trans h7), ((ef1 8 (by omega)).trans h8), ((ef1 9 (by omega)).trans h9), ((ef1 10 (by omega)).trans h10), hsc.kept (fun t _ _ => ef1 t (by omega)), ((ef1 16 (by omega)).trans h16), ((ef1 17 (by omega)).trans h17)⟩, fun t ht => ef1 t (by omega)⟩

set_option maxHeartbeats 4000000 in
set_option maxRecDepth 20000 in
theorem y_shr_y {l : Launch} {g : cx_G} {w : wd_T} {c m0 tk gN rN tN : Nat} {fl : Int32} {fn wn : Nat → Nat} {gp by9 rD tD tV tT : Nat → Int32} (hM : MdAt g w m0 fl tk gN rN tN fn wn gp by9 rD tD tV tT) (hI : Iv9 c tk gN rN tN fn wn by9 tD tV tT) {k9 : Nat} (hk9 : k9 < tk) {i : Nat} (hi : i < 8) : Mt l g yX8_share cX8_share 16 (some .long) 2 0 0 w [.ref m0, .int (nI k9), .int (nI i)] (fun v w' => v = some (.long (shr9 fn wn k9 i)) ∧ MdAt g w' m0 (nI 0) tk gN rN tN fn wn gp by9 rD tD tV tT ∧ Fm w w') := by
  refine mt_of RX8 "share" rfl rfl (by decide) (Nat.le_of_ble_eq_true rfl) [(0, .ref m0), (1, .int (nI k9)), (2, .int (nI i))] rfl ?_
  intro k hkl C hin
  subst hkl
  obtain ⟨ad, rS, fS, lv, fo, h0, hks, h3, h4, h5, h6, h7, h8, h9, h10, hsc, h16, h17⟩ := id hM
  obtain ⟨i0, i1, i2, i3, i4, i5, i6, i7, i8, i9, i10⟩ := id hI
  have b8 := i4 k9 hk9 8 (by decide)
  have m8 : fmx9 8 = 99 := rfl
  have b3 := i4 k9 hk9 3 (by decide)
  have m3 : fmx9 3 = 1000000000 := rfl
  have n5 := i5 k9 hk9
  refine r_aload_n (q := 1) C 0 dX8_share_0 rfl rfl ?_
  refine r_iload_n (q := 2) C 1 dX8_share_1 rfl rfl ?_
  refine r_callV (q := 5) (t := 0) (As := [.int (nI k9)]) (st := []) C koX8 h0 (m_ist_y h0 (by omega) hk9) q847 q844 q846 qp25 q9 rfl ⟨by decide, by decide⟩ (show (parseMethodDescriptor yX8_isTicket.desc).map (fun d => d.parameters.length) = some 1 by decide +kernel) (by decide) (by decide) (by decide) (by decide) (Nat.le_of_ble_eq_true rfl) rfl dX8_share_2 rfl ?_
  rintro v9 w2 ⟨rfl, e0, ef1⟩
  show V g k 16 w2 0 0 (kQ g k (fun v w' => v = some (.long (shr9 fn wn k9 i)) ∧ MdAt g w' m0 (nI 0) tk gN rN tN fn wn gp by9 rD tD tV tT ∧ Fm w w') 0 0) 5 [(0, .ref m0), (1, .int (nI k9)), (2, .int (nI i))] [.int (nI 1)]
  refine r_if_eq_f (q := 8) (tgt := 19) C dX8_share_5 (by decide) rfl (by decide) ?_
  refine r_iload_n (q := 9) C 2 dX8_share_8 rfl rfl ?_
  refine r_i2l (q := 10) C dX8_share_9 rfl ?_
  refine r_tl (show ((nI i).toInt64 : Int64) = lN i from nI_l (by omega)) ?_
  refine r_ldc2 (q := 13) (v := lN 7) C dX8_share_10 q880 rfl ?_
  refine r_callS (q := 16) (As := [.long (lN i), .long (lN 7)]) (st := []) C (m_in_y (n := i) (b := 7) (by omega) (by decide)) q787 q785 q786 q9 ⟨by decide, by decide⟩ (show (parseMethodDescriptor yX8_isIn.desc).map (fun d => d.parameters.length) = some 2 by decide +kernel) (by decide) (by decide) (by decide) (by decide) (Nat.le_of_ble_eq_true rfl) rfl dX8_share_13 rfl ?_
  rintro v9 w4 ⟨rfl, rfl⟩
  show V g k 16 w2 0 0 (kQ g k (fun v w' => v = some (.long (shr9 fn wn k9 i)) ∧ MdAt g w' m0 (nI 0) tk gN rN tN fn wn gp by9 rD tD tV tT ∧ Fm w w') 0 0) 16 [(0, .ref m0), (1, .int (nI k9)), (2, .int (nI i))] [.int (nI 1)]
  refine r_if_ne_t (tgt := 23) C dX8_share_16 (by decide) (by decide) ?_
  refine r_lconst (q := 24) C (lN 0) dX8_share_23 (by decide) rfl ?_
  refine r_lstore_n (q := 25) (lv' := [(3, .long (lN 0)), (0, .ref m0), (1, .int (nI k9)), (2, .int (nI i))]) C dX8_share_24 (by decide) rfl rfl ?_
  refine r_iconst (q := 26) C (nI 0) dX8_share_25 (by decide) rfl ?_
  refine r_istore (q := 28) (lv' := [(5, .int (nI 0)), (3, .long (lN 0)), (0, .ref m0), (1, .int (nI k9)), (2, .int (nI i))]) C dX8_share_26 (by decide) rfl rfl ?_
  refine r_sub (lv' := [(5, .int (nI 0)), (3, .long (lN 0)), (0, .ref m0), (1, .int (nI k9)), (2, .int (nI i))]) [0, 1, 2, 3, 4] rfl ?_
  have loop : ∀ (r j : Nat)  , j + r = 8 → V g k 16 w2 0 0 (kQ g k (fun v w' => v = some (.long (shr9 fn wn k9 i)) ∧ MdAt g w' m0 (nI 0) tk gN rN tN fn wn gp by9 rD tD tV tT ∧ Fm w w') 0 0) 28 [(5, .int (nI j)), (3, .long (tlS (cw9 wn k9) j)), (0, .ref m0), (1, .int (nI k9)), (2, .int (nI i))] [] := by
    intro r
    induction r with
    | zero =>
      intro j   hi 
      obtain rfl : 8 = j := by omega
      refine r_iload (q := 30) C 0 dX8_share_28 rfl rfl ?_
      refine r_bipush (q := 32) C (nI 8) dX8_share_30 (by decide) rfl ?_
      refine r_icmp_ge_t (tgt := 57) C dX8_share_32 (by decide) ((nI_leI (a := 8) (b := 8) (by omega) (by omega)).mpr (by omega)) ?_
      obtain ⟨s9, hs9, es9⟩ := tlS_nat (k9 := k9) i6 8
      rcases Nat.eq_zero_or_pos s9 with hs0 | hs0
      · subst hs0
        refine r_lload_n (q := 58) C 1 dX8_share_57 rfl rfl ?_
        refine r_lconst (q := 59) C (lN 0) dX8_share_58 (by decide) rfl ?_
        refine r_lcmp_ne (q := 60) (q2 := 63) (tgt := 67) C dX8_share_59 rfl dX8_share_60 (by decide) rfl (fun hz5 => absurd (es9) (by first | exact hz5 | exact fun zz => zz hz5)) (fun _ => ?_)
        refine r_ldc2 (q := 66) (v := (-1)) C dX8_share_63 q800 rfl ?_
        exact r_lret C rfl (by decide) (by decide) dX8_share_66 ⟨by unfold shr9; rw [if_neg (by rw [es9]; decide)], ⟨ad, _, _, _, _, e0, hks.kept (fun t _ _ => ef1 t (by omega)), ((ef1 3 (by omega)).trans h3), ((ef1 4 (by omega)).trans h4), ((ef1 5 (by omega)).trans h5), ((ef1 6 (by omega)).trans h6), ((ef1 7 (by omega)).trans h7), ((ef1 8 (by omega)).trans h8), ((ef1 9 (by omega)).trans h9), ((ef1 10 (by omega)).trans h10), hsc.kept (fun t _ _ => ef1 t (by omega)), ((ef1 16 (by omega)).trans h16), ((ef1 17 (by omega)).trans h17)⟩, fun t ht => ef1 t (by omega)⟩
      · have hpos : lN 0 < tlS (cw9 wn k9) 8 := by rw [es9]; exact (pk_lLT (a := 0) (b := s9) (by omega) (by omega)).mpr hs0
        have hne : ¬ tlS (cw9 wn k9) 8 = 0 := fun z => by rw [z] at hpos; exact absurd hpos (by decide)
        refine r_lload_n (q := 58) C 1 dX8_share_57 rfl rfl ?_
        refine r_lconst (q := 59) C (lN 0) dX8_share_58 (by decide) rfl ?_
        refine r_lcmp_ne (q := 60) (q2 := 63) (tgt := 67) C dX8_share_59 rfl dX8_share_60 (by decide) rfl (fun _ => ?_) (fun hz6 => absurd (hne) (by first | exact hz6 | exact fun zz => zz hz6))
        refine r_aload_n (q := 68) C 2 dX8_share_67 rfl rfl ?_
        refine r_iload_n (q := 69) C 3 dX8_share_68 rfl rfl ?_
        by_cases hz : fn (9 * k9 + 8) = 0
        · refine r_callV (q := 72) (t := 0) (As := [.int (nI k9)]) (st := []) C koX8 e0 (m_isv_n e0 ((ef1 6 (by omega)).trans h6) (by omega) (by omega) hz) q851 q848 q850 qp26 q9 rfl ⟨by decide, by decide⟩ (show (parseMethodDescriptor yX8_isVoid.desc).map (fun d => d.parameters.length) = some 1 by decide +kernel) (by decide) (by decide) (by decide) (by decide) (Nat.le_of_ble_eq_true rfl) rfl dX8_share_69 rfl ?_
          rintro v9 w7 ⟨rfl, rfl⟩
          show V g k 16 w2 0 0 (kQ g k (fun v w' => v = some (.long (shr9 fn wn k9 i)) ∧ MdAt g w' m0 (nI 0) tk gN rN tN fn wn gp by9 rD tD tV tT ∧ Fm w w') 0 0) 72 [(5, .int (nI 8)), (3, .long (tlS (cw9 wn k9) 8)), (0, .ref m0), (1, .int (nI k9)), (2, .int (nI i))] [.int (nI 0)]
          refine r_if_eq_t (tgt := 79) C dX8_share_72 (by decide) (by decide) ?_
          refine r_aload_n (q := 80) C 2 dX8_share_79 rfl rfl ?_
          refine r_iload_n (q := 81) C 3 dX8_share_80 rfl rfl ?_
          refine r_iconst (q := 82) C (nI 5) dX8_share_81 (by decide) rfl ?_
          refine r_callV (q := 85) (t := 0) (As := [.int (nI k9), .int (nI 5)]) (st := []) C koX8 e0 (m_at_y e0 ((ef1 6 (by omega)).trans h6) (by omega) hk9 n5 (by decide)) q859 q886 q857 q858 q9 rfl ⟨by decide, by decide⟩ (show (parseMethodDescriptor yX8_at.desc).map (fun d => d.parameters.length) = some 2 by decide +kernel) (by decide) (by decide) (by decide) (by decide) (Nat.le_of_ble_eq_true rfl) rfl dX8_share_82 rfl ?_
          rintro v9 w10 ⟨rfl, z80, zf9⟩
          show V g k 16 w10 0 0 (kQ g k (fun v w' => v = some (.long (shr9 fn wn k9 i)) ∧ MdAt g w' m0 (nI 0) tk gN rN tN fn wn gp by9 rD tD tV tT ∧ Fm w w') 0 0) 85 [(5, .int (nI 8)), (3, .long (tlS (cw9 wn k9) 8)), (0, .ref m0), (1, .int (nI k9)), (2, .int (nI i))] [.long (lN (fv9 fn k9 5))]
          refine r_lstore (q := 87) (lv' := [(5, .long (lN (fv9 fn k9 5))), (3, .long (tlS (cw9 wn k9) 8)), (0, .ref m0), (1, .int (nI k9)), (2, .int (nI i))]) C dX8_share_85 (by decide) rfl rfl ?_
          refine r_lload (q := 89) C 0 dX8_share_87 rfl rfl ?_
          refine r_lstore (q := 91) (lv' := [(7, .long (lN (fv9 fn k9 5))), (5, .long (lN (fv9 fn k9 5))), (3, .long (tlS (cw9 wn k9) 8)), (0, .ref m0), (1, .int (nI k9)), (2, .int (nI i))]) C dX8_share_89 (by decide) rfl rfl ?_
          refine r_iconst (q := 92) C (nI 0) dX8_share_91 (by decide) rfl ?_
          refine r_istore (q := 94) (lv' := [(9, .int (nI 0)), (7, .long (lN (fv9 fn k9 5))), (5, .long (lN (fv9 fn k9 5))), (3, .long (tlS (cw9 wn k9) 8)), (0, .ref m0), (1, .int (nI k9)), (2, .int (nI i))]) C dX8_share_92 (by decide) rfl rfl ?_
          refine r_sub (lv' := [(9, .int (nI 0)), (7, .long (lN (fv9 fn k9 5))), (3, .long (tlS (cw9 wn k9) 8)), (5, .long (lN (fv9 fn k9 5))), (0, .ref m0), (1, .int (nI k9)), (2, .int (nI i))]) [0, 1, 3, 2, 4, 5, 6] rfl ?_
          have loop : ∀ (r c8 : Nat)  , c8 + r = 8 → V g k 16 w10 0 0 (kQ g k (fun v w' => v = some (.long (shr9 fn wn k9 i)) ∧ MdAt g w' m0 (nI 0) tk gN rN tN fn wn gp by9 rD tD tV tT ∧ Fm w w') 0 0) 94 [(9, .int (nI c8)), (7, .long (shL (lN (fv9 fn k9 5)) (tlS (cw9 wn k9) 8) (cw9 wn k9) c8)), (3, .long (tlS (cw9 wn k9) 8)), (5, .long (lN (fv9 fn k9 5))), (0, .ref m0), (1, .int (nI k9)), (2, .int (nI i))] [] := by
            intro r
            induction r with
            | zero =>
              intro c8   hi 
              obtain rfl : 8 = c8 := by omega
              refine r_iload (q := 96) C 0 dX8_share_94 rfl rfl ?_
              refine r_bipush (q := 98) C (nI 8) dX8_share_96 (by decide) rfl ?_
              refine r_icmp_ge_t (tgt := 130) C dX8_share_98 (by decide) ((nI_leI (a := 8) (b := 8) (by omega) (by omega)).mpr (by omega)) ?_
              refine r_lload (q := 132) C 3 dX8_share_130 rfl rfl ?_
              refine r_aload_n (q := 133) C 4 dX8_share_132 rfl rfl ?_
              refine r_get (q := 136) (t := 0) C koX8 z80 7 (by decide) q707 rfl rfl dX8_share_133 rfl ?_
              refine r_bipush (q := 138) C (nI 8) dX8_share_136 (by decide) rfl ?_
              refine r_iload_n (q := 139) C 5 dX8_share_138 rfl rfl ?_
              refine r_imul (q := 140) C dX8_share_139 rfl ?_
              refine r_ti (show ((nI 8) * (nI k9) : Int32) = nI (8 * k9) from pk_mul 8 k9) ?_
              refine r_iload_n (q := 141) C 6 dX8_share_140 rfl rfl ?_
              refine r_iadd (q := 142) C dX8_share_141 rfl ?_
              refine r_ti (show ((nI (8 * k9)) + (nI i) : Int32) = nI (8 * k9 + i) from nI_add (8 * k9) i) ?_
              refine r_iald (q := 143) (t := 7) C ((zf9 7 (by omega)).trans ((ef1 7 (by omega)).trans h7)) (8 * k9 + i) rfl (by omega) (by decide) dX8_share_142 rfl ?_
              have wb9_ := i6 (8 * k9 + i)
              refine r_ti (show ((fun p => nI (wn p)) (8 * k9 + i) : Int32) = nI (wn (8 * k9 + i)) from rfl) ?_
              refine r_i2l (q := 144) C dX8_share_143 rfl ?_
              refine r_tl (show ((nI (wn (8 * k9 + i))).toInt64 : Int64) = lN (wn (8 * k9 + i)) from nI_l (by omega)) ?_
              refine r_lmul (q := 145) C dX8_share_144 rfl ?_
              refine r_lload_n (q := 146) C 2 dX8_share_145 rfl rfl ?_
              refine r_lrem (q := 147) C dX8_share_146 hne rfl ?_
              show V g k 16 w10 0 0 (kQ g k (fun v w' => v = some (.long (shr9 fn wn k9 i)) ∧ MdAt g w' m0 (nI 0) tk gN rN tN fn wn gp by9 rD tD tV tT ∧ Fm w w') 0 0) 147 [(9, .int (nI 8)), (7, .long (shL (lN (fv9 fn k9 5)) (tlS (cw9 wn k9) 8) (cw9 wn k9) 8)), (3, .long (tlS (cw9 wn k9) 8)), (5, .long (lN (fv9 fn k9 5))), (0, .ref m0), (1, .int (nI k9)), (2, .int (nI i))] [.long (shR (lN (fv9 fn k9 5)) (tlS (cw9 wn k9) 8) (cw9 wn k9) i)]
              refine r_lstore (q := 149) (lv' := [(9, .long (shR (lN (fv9 fn k9 5)) (tlS (cw9 wn k9) 8) (cw9 wn k9) i)), (7, .long (shL (lN (fv9 fn k9 5)) (tlS (cw9 wn k9) 8) (cw9 wn k9) 8)), (3, .long (tlS (cw9 wn k9) 8)), (5, .long (lN (fv9 fn k9 5))), (0, .ref m0), (1, .int (nI k9)), (2, .int (nI i))]) C dX8_share_147 (by decide) rfl rfl ?_
              refine r_lconst (q := 150) C (lN 0) dX8_share_149 (by decide) rfl ?_
              refine r_lstore (q := 152) (lv' := [(11, .long (lN 0)), (9, .long (shR (lN (fv9 fn k9 5)) (tlS (cw9 wn k9) 8) (cw9 wn k9) i)), (7, .long (shL (lN (fv9 fn k9 5)) (tlS (cw9 wn k9) 8) (cw9 wn k9) 8)), (3, .long (tlS (cw9 wn k9) 8)), (5, .long (lN (fv9 fn k9 5))), (0, .ref m0), (1, .int (nI k9)), (2, .int (nI i))]) C dX8_share_150 (by decide) rfl rfl ?_
              refine r_iconst (q := 153) C (nI 0) dX8_share_152 (by decide) rfl ?_
              refine r_istore (q := 155) (lv' := [(13, .int (nI 0)), (11, .long (lN 0)), (9, .long (shR (lN (fv9 fn k9 5)) (tlS (cw9 wn k9) 8) (cw9 wn k9) i)), (7, .long (shL (lN (fv9 fn k9 5)) (tlS (cw9 wn k9) 8) (cw9 wn k9) 8)), (3, .long (tlS (cw9 wn k9) 8)), (5, .long (lN (fv9 fn k9 5))), (0, .ref m0), (1, .int (nI k9)), (2, .int (nI i))]) C dX8_share_153 (by decide) rfl rfl ?_
              refine r_sub (lv' := [(13, .int (nI 0)), (11, .long (lN 0)), (9, .long (shR (lN (fv9 fn k9 5)) (tlS (cw9 wn k9) 8) (cw9 wn k9) i)), (7, .long (shL (lN (fv9 fn k9 5)) (tlS (cw9 wn k9) 8) (cw9 wn k9) 8)), (3, .long (tlS (cw9 wn k9) 8)), (5, .long (lN (fv9 fn k9 5))), (0, .ref m0), (1, .int (nI k9)), (2, .int (nI i))]) [0, 1, 2, 3, 4, 5, 6, 7, 8] rfl ?_
              have loop : ∀ (r o9 : Nat) (b9 : Nat) , o9 + r = 8 → (b9 = shB (lN (fv9 fn k9 5)) (tlS (cw9 wn k9) 8) (cw9 wn k9) i o9) → V g k 16 w10 0 0 (kQ g k (fun v w' => v = some (.long (shr9 fn wn k9 i)) ∧ MdAt g w' m0 (nI 0) tk gN rN tN fn wn gp by9 rD tD tV tT ∧ Fm w w') 0 0) 155 [(13, .int (nI o9)), (11, .long (lN b9)), (9, .long (shR (lN (fv9 fn k9 5)) (tlS (cw9 wn k9) 8) (cw9 wn k9) i)), (7, .long (shL (lN (fv9 fn k9 5)) (tlS (cw9 wn k9) 8) (cw9 wn k9) 8)), (3, .long (tlS (cw9 wn k9) 8)), (5, .long (lN (fv9 fn k9 5))), (0, .ref m0), (1, .int (nI k9)), (2, .int (nI i))] [] := by
                intro r
                induction r with
                | zero =>
                  intro o9 b9  hi hb
                  obtain rfl : 8 = o9 := by omega
                  subst hb
                  have hbl := shB_le (net := lN (fv9 fn k9 5)) (total := tlS (cw9 wn k9) 8) (f := cw9 wn k9) (c := i) 8
                  refine r_iload (q := 157) C 0 dX8_share_155 rfl rfl ?_
                  refine r_bipush (q := 159) C (nI 8) dX8_share_157 (by decide) rfl ?_
                  refine r_icmp_ge_t (tgt := 220) C dX8_share_159 (by decide) ((nI_leI (a := 8) (b := 8) (by omega) (by omega)).mpr (by omega)) ?_
                  refine r_lload (q := 222) C 5 dX8_share_220 rfl rfl ?_
                  refine r_aload_n (q := 223) C 6 dX8_share_222 rfl rfl ?_
                  refine r_get (q := 226) (t := 0) C koX8 z80 7 (by decide) q707 rfl rfl dX8_share_223 rfl ?_
                  refine r_bipush (q := 228) C (nI 8) dX8_share_226 (by decide) rfl ?_
                  refine r_iload_n (q := 229) C 7 dX8_share_228 rfl rfl ?_
                  refine r_imul (q := 230) C dX8_share_229 rfl ?_
                  refine r_ti (show ((nI 8) * (nI k9) : Int32) = nI (8 * k9) from pk_mul 8 k9) ?_
                  refine r_iload_n (q := 231) C 8 dX8_share_230 rfl rfl ?_
                  refine r_iadd (q := 232) C dX8_share_231 rfl ?_
                  refine r_ti (show ((nI (8 * k9)) + (nI i) : Int32) = nI (8 * k9 + i) from nI_add (8 * k9) i) ?_
                  refine r_iald (q := 233) (t := 7) C ((zf9 7 (by omega)).trans ((ef1 7 (by omega)).trans h7)) (8 * k9 + i) rfl (by omega) (by decide) dX8_share_232 rfl ?_
                  have wb9_ := i6 (8 * k9 + i)
                  refine r_ti (show ((fun p => nI (wn p)) (8 * k9 + i) : Int32) = nI (wn (8 * k9 + i)) from rfl) ?_
                  refine r_i2l (q := 234) C dX8_share_233 rfl ?_
                  refine r_tl (show ((nI (wn (8 * k9 + i))).toInt64 : Int64) = lN (wn (8 * k9 + i)) from nI_l (by omega)) ?_
                  refine r_lmul (q := 235) C dX8_share_234 rfl ?_
                  refine r_lload_n (q := 236) C 4 dX8_share_235 rfl rfl ?_
                  refine r_ldiv (q := 237) C dX8_share_236 hne rfl ?_
                  show V g k 16 w10 0 0 (kQ g k (fun v w' => v = some (.long (shr9 fn wn k9 i)) ∧ MdAt g w' m0 (nI 0) tk gN rN tN fn wn gp by9 rD tD tV tT ∧ Fm w w') 0 0) 237 [(13, .int (nI 8)), (11, .long (lN (shB (lN (fv9 fn k9 5)) (tlS (cw9 wn k9) 8) (cw9 wn k9) i 8))), (9, .long (shR (lN (fv9 fn k9 5)) (tlS (cw9 wn k9) 8) (cw9 wn k9) i)), (7, .long (shL (lN (fv9 fn k9 5)) (tlS (cw9 wn k9) 8) (cw9 wn k9) 8)), (3, .long (tlS (cw9 wn k9) 8)), (5, .long (lN (fv9 fn k9 5))), (0, .ref m0), (1, .int (nI k9)), (2, .int (nI i))] [.long (shD (lN (fv9 fn k9 5)) (tlS (cw9 wn k9) 8) (cw9 wn k9) i)]
                  refine r_lload (q := 239) C 1 dX8_share_237 rfl rfl ?_
                  refine r_lload (q := 241) C 3 dX8_share_239 rfl rfl ?_
                  refine r_lcmp_ge (q := 242) (q2 := 245) (tgt := 249) C dX8_share_241 rfl dX8_share_242 (by decide) rfl (fun hc12 => ?_) (fun hc12 => ?_)
                  · refine r_lconst (q := 250) C (lN 0) dX8_share_249 (by decide) rfl ?_
                    refine r_ladd (q := 251) C dX8_share_250 rfl ?_
                    exact r_lret C rfl (by decide) (by decide) dX8_share_251 ⟨by unfold shr9; rw [if_pos hpos, if_pos hz]; unfold shA; rw [if_neg (Int64.not_lt.mpr hc12)]; exact congrArg (fun z => some (Value.long z)) (Int64.add_zero _), ⟨ad, _, _, _, _, z80, hks.kept (fun t _ _ => (zf9 t (by omega)).trans (ef1 t (by omega))), ((zf9 3 (by omega)).trans ((ef1 3 (by omega)).trans h3)), ((zf9 4 (by omega)).trans ((ef1 4 (by omega)).trans h4)), ((zf9 5 (by omega)).trans ((ef1 5 (by omega)).trans h5)), ((zf9 6 (by omega)).trans ((ef1 6 (by omega)).trans h6)), ((zf9 7 (by omega)).trans ((ef1 7 (by omega)).trans h7)), ((zf9 8 (by omega)).trans ((ef1 8 (by omega)).trans h8)), ((zf9 9 (by omega)).trans ((ef1 9 (by omega)).trans h9)), ((zf9 10 (by omega)).trans ((ef1 10 (by omega)).trans h10)), hsc.kept (fun t _ _ => (zf9 t (by omega)).trans (ef1 t (by omega))), ((zf9 16 (by omega)).trans ((ef1 16 (by omega)).trans h16)), ((zf9 17 (by omega)).trans ((ef1 17 (by omega)).trans h17))⟩, fun t ht => (zf9 t (by omega)).trans (ef1 t (by omega))⟩
                  · refine r_lconst (q := 246) C (lN 1) dX8_share_245 (by decide) rfl ?_
                    refine r_goto (tgt := 250) C dX8_share_246 (by decide) ?_
                    refine r_ladd (q := 251) C dX8_share_250 rfl ?_
                    exact r_lret C rfl (by decide) (by decide) dX8_share_251 ⟨by unfold shr9; rw [if_pos hpos, if_pos hz]; unfold shA; rw [if_pos (Int64.not_le.mp hc12)], ⟨ad, _, _, _, _, z80, hks.kept (fun t _ _ => (zf9 t (by omega)).trans (ef1 t (by omega))), ((zf9 3 (by omega)).trans ((ef1 3 (by omega)).trans h3)), ((zf9 4 (by omega)).trans ((ef1 4 (by omega)).trans h4)), ((zf9 5 (by omega)).trans ((ef1 5 (by omega)).trans h5)), ((zf9 6 (by omega)).trans ((ef1 6 (by omega)).trans h6)), ((zf9 7 (by omega)).trans ((ef1 7 (by omega)).trans h7)), ((zf9 8 (by omega)).trans ((ef1 8 (by omega)).trans h8)), ((zf9 9 (by omega)).trans ((ef1 9 (by omega)).trans h9)), ((zf9 10 (by omega)).trans ((ef1 10 (by omega)).trans h10)), hsc.kept (fun t _ _ => (zf9 t (by omega)).trans (ef1 t (by omega))), ((zf9 16 (by omega)).trans ((ef1 16 (by omega)).trans h16)), ((zf9 17 (by omega)).trans ((ef1 17 (by omega)).trans h17))⟩, fun t ht => (zf9 t (by omega)).trans (ef1 t (by omega))⟩
                | succ r ih =>
                  intro o9 b9  hi hb
                  refine r_iload (q := 157) C 0 dX8_share_155 rfl rfl ?_
                  refine r_bipush (q := 159) C (nI 8) dX8_share_157 (by decide) rfl ?_
                  refine r_icmp_ge_f (q := 162) (tgt := 220) C dX8_share_159 (by decide) rfl (fun z => absurd ((nI_leI (a := 8) (b := o9) (by omega) (by omega)).mp z) (by omega)) ?_
                  refine r_lload (q := 164) C 5 dX8_share_162 rfl rfl ?_
                  refine r_aload_n (q := 165) C 6 dX8_share_164 rfl rfl ?_
                  refine r_get (q := 168) (t := 0) C koX8 z80 7 (by decide) q707 rfl rfl dX8_share_165 rfl ?_
                  refine r_bipush (q := 170) C (nI 8) dX8_share_168 (by decide) rfl ?_
                  refine r_iload_n (q := 171) C 7 dX8_share_170 rfl rfl ?_
                  refine r_imul (q := 172) C dX8_share_171 rfl ?_
                  refine r_ti (show ((nI 8) * (nI k9) : Int32) = nI (8 * k9) from pk_mul 8 k9) ?_
                  refine r_iload (q := 174) C 0 dX8_share_172 rfl rfl ?_
                  refine r_iadd (q := 175) C dX8_share_174 rfl ?_
                  refine r_ti (show ((nI (8 * k9)) + (nI o9) : Int32) = nI (8 * k9 + o9) from nI_add (8 * k9) o9) ?_
                  refine r_iald (q := 176) (t := 7) C ((zf9 7 (by omega)).trans ((ef1 7 (by omega)).trans h7)) (8 * k9 + o9) rfl (by omega) (by decide) dX8_share_175 rfl ?_
                  have wb9_ := i6 (8 * k9 + o9)
                  refine r_ti (show ((fun p => nI (wn p)) (8 * k9 + o9) : Int32) = nI (wn (8 * k9 + o9)) from rfl) ?_
                  refine r_i2l (q := 177) C dX8_share_176 rfl ?_
                  refine r_tl (show ((nI (wn (8 * k9 + o9))).toInt64 : Int64) = lN (wn (8 * k9 + o9)) from nI_l (by omega)) ?_
                  refine r_lmul (q := 178) C dX8_share_177 rfl ?_
                  refine r_lload_n (q := 179) C 4 dX8_share_178 rfl rfl ?_
                  refine r_lrem (q := 180) C dX8_share_179 hne rfl ?_
                  show V g k 16 w10 0 0 (kQ g k (fun v w' => v = some (.long (shr9 fn wn k9 i)) ∧ MdAt g w' m0 (nI 0) tk gN rN tN fn wn gp by9 rD tD tV tT ∧ Fm w w') 0 0) 180 [(13, .int (nI o9)), (11, .long (lN b9)), (9, .long (shR (lN (fv9 fn k9 5)) (tlS (cw9 wn k9) 8) (cw9 wn k9) i)), (7, .long (shL (lN (fv9 fn k9 5)) (tlS (cw9 wn k9) 8) (cw9 wn k9) 8)), (3, .long (tlS (cw9 wn k9) 8)), (5, .long (lN (fv9 fn k9 5))), (0, .ref m0), (1, .int (nI k9)), (2, .int (nI i))] [.long (shR (lN (fv9 fn k9 5)) (tlS (cw9 wn k9) 8) (cw9 wn k9) o9)]
                  refine r_lstore (q := 182) (lv' := [(14, .long (shR (lN (fv9 fn k9 5)) (tlS (cw9 wn k9) 8) (cw9 wn k9) o9)), (13, .int (nI o9)), (11, .long (lN b9)), (9, .long (shR (lN (fv9 fn k9 5)) (tlS (cw9 wn k9) 8) (cw9 wn k9) i)), (7, .long (shL (lN (fv9 fn k9 5)) (tlS (cw9 wn k9) 8) (cw9 wn k9) 8)), (3, .long (tlS (cw9 wn k9) 8)), (5, .long (lN (fv9 fn k9 5))), (0, .ref m0), (1, .int (nI k9)), (2, .int (nI i))]) C dX8_share_180 (by decide) rfl rfl ?_
                  refine r_lload (q := 184) C 2 dX8_share_182 rfl rfl ?_
                  refine r_lload (q := 186) C 0 dX8_share_184 rfl rfl ?_
                  refine r_lload (q := 188) C 3 dX8_share_186 rfl rfl ?_
                  refine r_lcmp_gt (q := 189) (q2 := 192) (tgt := 206) C dX8_share_188 rfl dX8_share_189 (by decide) rfl (fun hc16 => ?_) (fun hc16 => ?_)
                  · refine r_lconst (q := 207) C (lN 1) dX8_share_206 (by decide) rfl ?_
                    refine r_goto (tgt := 211) C dX8_share_207 (by decide) ?_
                    refine r_ladd (q := 212) C dX8_share_211 rfl ?_
                    refine r_tl (show ((lN b9) + (lN 1) : Int64) = lN (b9 + 1) from lN_add b9 1) ?_
                    refine r_lstore (q := 214) (lv' := [(11, .long (lN (b9 + 1))), (14, .long (shR (lN (fv9 fn k9 5)) (tlS (cw9 wn k9) 8) (cw9 wn k9) o9)), (13, .int (nI o9)), (9, .long (shR (lN (fv9 fn k9 5)) (tlS (cw9 wn k9) 8) (cw9 wn k9) i)), (7, .long (shL (lN (fv9 fn k9 5)) (tlS (cw9 wn k9) 8) (cw9 wn k9) 8)), (3, .long (tlS (cw9 wn k9) 8)), (5, .long (lN (fv9 fn k9 5))), (0, .ref m0), (1, .int (nI k9)), (2, .int (nI i))]) C dX8_share_212 (by decide) rfl rfl ?_
                    refine r_iinc (q := 217) (v := nI (o9 + 1)) (lv' := [(13, .int (nI (o9 + 1))), (11, .long (lN (b9 + 1))), (14, .long (shR (lN (fv9 fn k9 5)) (tlS (cw9 wn k9) 8) (cw9 wn k9) o9)), (9, .long (shR (lN (fv9 fn k9 5)) (tlS (cw9 wn k9) 8) (cw9 wn k9) i)), (7, .long (shL (lN (fv9 fn k9 5)) (tlS (cw9 wn k9) 8) (cw9 wn k9) 8)), (3, .long (tlS (cw9 wn k9) 8)), (5, .long (lN (fv9 fn k9 5))), (0, .ref m0), (1, .int (nI k9)), (2, .int (nI i))]) C 2 dX8_share_214 rfl (nI_1 o9) (by decide) rfl rfl ?_
                    refine r_goto (tgt := 155) C dX8_share_217 (by decide) ?_
                    refine r_sub (lv' := [(13, .int (nI (o9 + 1))), (11, .long (lN (b9 + 1))), (9, .long (shR (lN (fv9 fn k9 5)) (tlS (cw9 wn k9) 8) (cw9 wn k9) i)), (7, .long (shL (lN (fv9 fn k9 5)) (tlS (cw9 wn k9) 8) (cw9 wn k9) 8)), (3, .long (tlS (cw9 wn k9) 8)), (5, .long (lN (fv9 fn k9 5))), (0, .ref m0), (1, .int (nI k9)), (2, .int (nI i))]) [0, 1, 3, 4, 5, 6, 7, 8, 9] rfl ?_
                    exact ih (o9 + 1) (b9 + 1) (by omega) (by rw [shB, if_pos (Or.inl hc16), hb])
                  · refine r_lload (q := 194) C 0 dX8_share_192 rfl rfl ?_
                    refine r_lload (q := 196) C 3 dX8_share_194 rfl rfl ?_
                    refine r_lcmp_ne (q := 197) (q2 := 200) (tgt := 210) C dX8_share_196 rfl dX8_share_197 (by decide) rfl (fun hc19 => ?_) (fun hc19 => ?_)
                    · refine r_lconst (q := 211) C (lN 0) dX8_share_210 (by decide) rfl ?_
                      refine r_ladd (q := 212) C dX8_share_211 rfl ?_
                      refine r_tl (show ((lN b9) + (lN 0) : Int64) = lN (b9 + 0) from lN_add b9 0) ?_
                      refine r_lstore (q := 214) (lv' := [(11, .long (lN (b9 + 0))), (14, .long (shR (lN (fv9 fn k9 5)) (tlS (cw9 wn k9) 8) (cw9 wn k9) o9)), (13, .int (nI o9)), (9, .long (shR (lN (fv9 fn k9 5)) (tlS (cw9 wn k9) 8) (cw9 wn k9) i)), (7, .long (shL (lN (fv9 fn k9 5)) (tlS (cw9 wn k9) 8) (cw9 wn k9) 8)), (3, .long (tlS (cw9 wn k9) 8)), (5, .long (lN (fv9 fn k9 5))), (0, .ref m0), (1, .int (nI k9)), (2, .int (nI i))]) C dX8_share_212 (by decide) rfl rfl ?_
                      refine r_iinc (q := 217) (v := nI (o9 + 1)) (lv' := [(13, .int (nI (o9 + 1))), (11, .long (lN (b9 + 0))), (14, .long (shR (lN (fv9 fn k9 5)) (tlS (cw9 wn k9) 8) (cw9 wn k9) o9)), (9, .long (shR (lN (fv9 fn k9 5)) (tlS (cw9 wn k9) 8) (cw9 wn k9) i)), (7, .long (shL (lN (fv9 fn k9 5)) (tlS (cw9 wn k9) 8) (cw9 wn k9) 8)), (3, .long (tlS (cw9 wn k9) 8)), (5, .long (lN (fv9 fn k9 5))), (0, .ref m0), (1, .int (nI k9)), (2, .int (nI i))]) C 2 dX8_share_214 rfl (nI_1 o9) (by decide) rfl rfl ?_
                      refine r_goto (tgt := 155) C dX8_share_217 (by decide) ?_
                      refine r_sub (lv' := [(13, .int (nI (o9 + 1))), (11, .long (lN (b9 + 0))), (9, .long (shR (lN (fv9 fn k9 5)) (tlS (cw9 wn k9) 8) (cw9 wn k9) i)), (7, .long (shL (lN (fv9 fn k9 5)) (tlS (cw9 wn k9) 8) (cw9 wn k9) 8)), (3, .long (tlS (cw9 wn k9) 8)), (5, .long (lN (fv9 fn k9 5))), (0, .ref m0), (1, .int (nI k9)), (2, .int (nI i))]) [0, 1, 3, 4, 5, 6, 7, 8, 9] rfl ?_
                      exact ih (o9 + 1) b9 (by omega) (by rw [shB, if_neg (fun z => z.elim hc16 (fun q => hc19 q.1)), hb]; rfl)
                    · refine r_iload (q := 202) C 1 dX8_share_200 rfl rfl ?_
                      refine r_iload_n (q := 203) C 9 dX8_share_202 rfl rfl ?_
                      refine r_icmp_ge (q := 206) (tgt := 210) C dX8_share_203 (by decide) rfl (fun hc22 => ?_) (fun hc22 => ?_)
                      · have hc22 : i ≤ o9 := (nI_leI (a := i) (b := o9) (by omega) (by omega)).mp hc22
                        refine r_lconst (q := 211) C (lN 0) dX8_share_210 (by decide) rfl ?_
                        refine r_ladd (q := 212) C dX8_share_211 rfl ?_
                        refine r_tl (show ((lN b9) + (lN 0) : Int64) = lN (b9 + 0) from lN_add b9 0) ?_
                        refine r_lstore (q := 214) (lv' := [(11, .long (lN (b9 + 0))), (14, .long (shR (lN (fv9 fn k9 5)) (tlS (cw9 wn k9) 8) (cw9 wn k9) o9)), (13, .int (nI o9)), (9, .long (shR (lN (fv9 fn k9 5)) (tlS (cw9 wn k9) 8) (cw9 wn k9) i)), (7, .long (shL (lN (fv9 fn k9 5)) (tlS (cw9 wn k9) 8) (cw9 wn k9) 8)), (3, .long (tlS (cw9 wn k9) 8)), (5, .long (lN (fv9 fn k9 5))), (0, .ref m0), (1, .int (nI k9)), (2, .int (nI i))]) C dX8_share_212 (by decide) rfl rfl ?_
                        refine r_iinc (q := 217) (v := nI (o9 + 1)) (lv' := [(13, .int (nI (o9 + 1))), (11, .long (lN (b9 + 0))), (14, .long (shR (lN (fv9 fn k9 5)) (tlS (cw9 wn k9) 8) (cw9 wn k9) o9)), (9, .long (shR (lN (fv9 fn k9 5)) (tlS (cw9 wn k9) 8) (cw9 wn k9) i)), (7, .long (shL (lN (fv9 fn k9 5)) (tlS (cw9 wn k9) 8) (cw9 wn k9) 8)), (3, .long (tlS (cw9 wn k9) 8)), (5, .long (lN (fv9 fn k9 5))), (0, .ref m0), (1, .int (nI k9)), (2, .int (nI i))]) C 2 dX8_share_214 rfl (nI_1 o9) (by decide) rfl rfl ?_
                        refine r_goto (tgt := 155) C dX8_share_217 (by decide) ?_
                        refine r_sub (lv' := [(13, .int (nI (o9 + 1))), (11, .long (lN (b9 + 0))), (9, .long (shR (lN (fv9 fn k9 5)) (tlS (cw9 wn k9) 8) (cw9 wn k9) i)), (7, .long (shL (lN (fv9 fn k9 5)) (tlS (cw9 wn k9) 8) (cw9 wn k9) 8)), (3, .long (tlS (cw9 wn k9) 8)), (5, .long (lN (fv9 fn k9 5))), (0, .ref m0), (1, .int (nI k9)), (2, .int (nI i))]) [0, 1, 3, 4, 5, 6, 7, 8, 9] rfl ?_
                        exact ih (o9 + 1) b9 (by omega) (by rw [shB, if_neg (fun z => z.elim hc16 (fun q => absurd q.2 (by omega))), hb]; rfl)
                      · have hc22 : ¬ i ≤ o9 := fun z => hc22 ((nI_leI (a := i) (b := o9) (by omega) (by omega)).mpr z)
                        refine r_lconst (q := 207) C (lN 1) dX8_share_206 (by decide) rfl ?_
                        refine r_goto (tgt := 211) C dX8_share_207 (by decide) ?_
                        refine r_ladd (q := 212) C dX8_share_211 rfl ?_
                        refine r_tl (show ((lN b9) + (lN 1) : Int64) = lN (b9 + 1) from lN_add b9 1) ?_
                        refine r_lstore (q := 214) (lv' := [(11, .long (lN (b9 + 1))), (14, .long (shR (lN (fv9 fn k9 5)) (tlS (cw9 wn k9) 8) (cw9 wn k9) o9)), (13, .int (nI o9)), (9, .long (shR (lN (fv9 fn k9 5)) (tlS (cw9 wn k9) 8) (cw9 wn k9) i)), (7, .long (shL (lN (fv9 fn k9 5)) (tlS (cw9 wn k9) 8) (cw9 wn k9) 8)), (3, .long (tlS (cw9 wn k9) 8)), (5, .long (lN (fv9 fn k9 5))), (0, .ref m0), (1, .int (nI k9)), (2, .int (nI i))]) C dX8_share_212 (by decide) rfl rfl ?_
                        refine r_iinc (q := 217) (v := nI (o9 + 1)) (lv' := [(13, .int (nI (o9 + 1))), (11, .long (lN (b9 + 1))), (14, .long (shR (lN (fv9 fn k9 5)) (tlS (cw9 wn k9) 8) (cw9 wn k9) o9)), (9, .long (shR (lN (fv9 fn k9 5)) (tlS (cw9 wn k9) 8) (cw9 wn k9) i)), (7, .long (shL (lN (fv9 fn k9 5)) (tlS (cw9 wn k9) 8) (cw9 wn k9) 8)), (3, .long (tlS (cw9 wn k9) 8)), (5, .long (lN (fv9 fn k9 5))), (0, .ref m0), (1, .int (nI k9)), (2, .int (nI i))]) C 2 dX8_share_214 rfl (nI_1 o9) (by decide) rfl rfl ?_
                        refine r_goto (tgt := 155) C dX8_share_217 (by decide) ?_
                        refine r_sub (lv' := [(13, .int (nI (o9 + 1))), (11, .long (lN (b9 + 1))), (9, .long (shR (lN (fv9 fn k9 5)) (tlS (cw9 wn k9) 8) (cw9 wn k9) i)), (7, .long (shL (lN (fv9 fn k9 5)) (tlS (cw9 wn k9) 8) (cw9 wn k9) 8)), (3, .long (tlS (cw9 wn k9) 8)), (5, .long (lN (fv9 fn k9 5))), (0, .ref m0), (1, .int (nI k9)), (2, .int (nI i))]) [0, 1, 3, 4, 5, 6, 7, 8, 9] rfl ?_
                        exact ih (o9 + 1) (b9 + 1) (by omega) (by rw [shB, if_pos (Or.inr ⟨hc19, by omega⟩), hb])
              exact loop 8 0 0 (by omega) rfl
            | succ r ih =>
              intro c8   hi 
              refine r_iload (q := 96) C 0 dX8_share_94 rfl rfl ?_
              refine r_bipush (q := 98) C (nI 8) dX8_share_96 (by decide) rfl ?_
              refine r_icmp_ge_f (q := 101) (tgt := 130) C dX8_share_98 (by decide) rfl (fun z => absurd ((nI_leI (a := 8) (b := c8) (by omega) (by omega)).mp z) (by omega)) ?_
              refine r_lload (q := 103) C 1 dX8_share_101 rfl rfl ?_
              refine r_lload (q := 105) C 3 dX8_share_103 rfl rfl ?_
              refine r_aload_n (q := 106) C 4 dX8_share_105 rfl rfl ?_
              refine r_get (q := 109) (t := 0) C koX8 z80 7 (by decide) q707 rfl rfl dX8_share_106 rfl ?_
              refine r_bipush (q := 111) C (nI 8) dX8_share_109 (by decide) rfl ?_
              refine r_iload_n (q := 112) C 5 dX8_share_111 rfl rfl ?_
              refine r_imul (q := 113) C dX8_share_112 rfl ?_
              refine r_ti (show ((nI 8) * (nI k9) : Int32) = nI (8 * k9) from pk_mul 8 k9) ?_
              refine r_iload (q := 115) C 0 dX8_share_113 rfl rfl ?_
              refine r_iadd (q := 116) C dX8_share_115 rfl ?_
              refine r_ti (show ((nI (8 * k9)) + (nI c8) : Int32) = nI (8 * k9 + c8) from nI_add (8 * k9) c8) ?_
              refine r_iald (q := 117) (t := 7) C ((zf9 7 (by omega)).trans ((ef1 7 (by omega)).trans h7)) (8 * k9 + c8) rfl (by omega) (by decide) dX8_share_116 rfl ?_
              have wb9_ := i6 (8 * k9 + c8)
              refine r_ti (show ((fun p => nI (wn p)) (8 * k9 + c8) : Int32) = nI (wn (8 * k9 + c8)) from rfl) ?_
              refine r_i2l (q := 118) C dX8_share_117 rfl ?_
              refine r_tl (show ((nI (wn (8 * k9 + c8))).toInt64 : Int64) = lN (wn (8 * k9 + c8)) from nI_l (by omega)) ?_
              refine r_lmul (q := 119) C dX8_share_118 rfl ?_
              refine r_lload_n (q := 120) C 2 dX8_share_119 rfl rfl ?_
              refine r_ldiv (q := 121) C dX8_share_120 hne rfl ?_
              refine r_lsub (q := 122) C dX8_share_121 rfl ?_
              show V g k 16 w10 0 0 (kQ g k (fun v w' => v = some (.long (shr9 fn wn k9 i)) ∧ MdAt g w' m0 (nI 0) tk gN rN tN fn wn gp by9 rD tD tV tT ∧ Fm w w') 0 0) 122 [(9, .int (nI c8)), (7, .long (shL (lN (fv9 fn k9 5)) (tlS (cw9 wn k9) 8) (cw9 wn k9) c8)), (3, .long (tlS (cw9 wn k9) 8)), (5, .long (lN (fv9 fn k9 5))), (0, .ref m0), (1, .int (nI k9)), (2, .int (nI i))] [.long (shL (lN (fv9 fn k9 5)) (tlS (cw9 wn k9) 8) (cw9 wn k9) (c8 + 1))]
              refine r_lstore (q := 124) (lv' := [(7, .long (shL (lN (fv9 fn k9 5)) (tlS (cw9 wn k9) 8) (cw9 wn k9) (c8 + 1))), (9, .int (nI c8)), (3, .long (tlS (cw9 wn k9) 8)), (5, .long (lN (fv9 fn k9 5))), (0, .ref m0), (1, .int (nI k9)), (2, .int (nI i))]) C dX8_share_122 (by decide) rfl rfl ?_
              refine r_iinc (q := 127) (v := nI (c8 + 1)) (lv' := [(9, .int (nI (c8 + 1))), (7, .long (shL (lN (fv9 fn k9 5)) (tlS (cw9 wn k9) 8) (cw9 wn k9) (c8 + 1))), (3, .long (tlS (cw9 wn k9) 8)), (5, .long (lN (fv9 fn k9 5))), (0, .ref m0), (1, .int (nI k9)), (2, .int (nI i))]) C 1 dX8_share_124 rfl (nI_1 c8) (by decide) rfl rfl ?_
              refine r_goto (tgt := 94) C dX8_share_127 (by decide) ?_
              refine r_sub (lv' := [(9, .int (nI (c8 + 1))), (7, .long (shL (lN (fv9 fn k9 5)) (tlS (cw9 wn k9) 8) (cw9 wn k9) (c8 + 1))), (3, .long (tlS (cw9 wn k9) 8)), (5, .long (lN (fv9 fn k9 5))), (0, .ref m0), (1, .int (nI k9)), (2, .int (nI i))]) [0, 1, 2, 3, 4, 5, 6] rfl ?_
              exact ih (c8 + 1) (by omega)
          exact loop 8 0 (by omega)
        · refine r_callV (q := 72) (t := 0) (As := [.int (nI k9)]) (st := []) C koX8 e0 (m_isv_y e0 ((ef1 6 (by omega)).trans h6) (by omega) (by omega) hz) q851 q848 q850 qp26 q9 rfl ⟨by decide, by decide⟩ (show (parseMethodDescriptor yX8_isVoid.desc).map (fun d => d.parameters.length) = some 1 by decide +kernel) (by decide) (by decide) (by decide) (by decide) (Nat.le_of_ble_eq_true rfl) rfl dX8_share_69 rfl ?_
          rintro v9 w26 ⟨rfl, rfl⟩
          show V g k 16 w2 0 0 (kQ g k (fun v w' => v = some (.long (shr9 fn wn k9 i)) ∧ MdAt g w' m0 (nI 0) tk gN rN tN fn wn gp by9 rD tD tV tT ∧ Fm w w') 0 0) 72 [(5, .int (nI 8)), (3, .long (tlS (cw9 wn k9) 8)), (0, .ref m0), (1, .int (nI k9)), (2, .int (nI i))] [.int (nI 1)]
          refine r_if_eq_f (q := 75) (tgt := 79) C dX8_share_72 (by decide) rfl (by decide) ?_
          refine r_lconst (q := 76) C (lN 0) dX8_share_75 (by decide) rfl ?_
          refine r_goto (tgt := 85) C dX8_share_76 (by decide) ?_
          refine r_lstore (q := 87) (lv' := [(5, .long (lN 0)), (3, .long (tlS (cw9 wn k9) 8)), (0, .ref m0), (1, .int (nI k9)), (2, .int (nI i))]) C dX8_share_85 (by decide) rfl rfl ?_
          refine r_lload (q := 89) C 0 dX8_share_87 rfl rfl ?_
          refine r_lstore (q := 91) (lv' := [(7, .long (lN 0)), (5, .long (lN 0)), (3, .long (tlS (cw9 wn k9) 8)), (0, .ref m0), (1, .int (nI k9)), (2, .int (nI i))]) C dX8_share_89 (by decide) rfl rfl ?_
          refine r_iconst (q := 92) C (nI 0) dX8_share_91 (by decide) rfl ?_
          refine r_istore (q := 94) (lv' := [(9, .int (nI 0)), (7, .long (lN 0)), (5, .long (lN 0)), (3, .long (tlS (cw9 wn k9) 8)), (0, .ref m0), (1, .int (nI k9)), (2, .int (nI i))]) C dX8_share_92 (by decide) rfl rfl ?_
          refine r_sub (lv' := [(9, .int (nI 0)), (7, .long (lN 0)), (3, .long (tlS (cw9 wn k9) 8)), (5, .long (lN 0)), (0, .ref m0), (1, .int (nI k9)), (2, .int (nI i))]) [0, 1, 3, 2, 4, 5, 6] rfl ?_
          have loop : ∀ (r c8 : Nat)  , c8 + r = 8 → V g k 16 w2 0 0 (kQ g k (fun v w' => v = some (.long (shr9 fn wn k9 i)) ∧ MdAt g w' m0 (nI 0) tk gN rN tN fn wn gp by9 rD tD tV tT ∧ Fm w w') 0 0) 94 [(9, .int (nI c8)), (7, .long (shL (lN 0) (tlS (cw9 wn k9) 8) (cw9 wn k9) c8)), (3, .long (tlS (cw9 wn k9) 8)), (5, .long (lN 0)), (0, .ref m0), (1, .int (nI k9)), (2, .int (nI i))] [] := by
            intro r
            induction r with
            | zero =>
              intro c8   hi 
              obtain rfl : 8 = c8 := by omega
              refine r_iload (q := 96) C 0 dX8_share_94 rfl rfl ?_
              refine r_bipush (q := 98) C (nI 8) dX8_share_96 (by decide) rfl ?_
              refine r_icmp_ge_t (tgt := 130) C dX8_share_98 (by decide) ((nI_leI (a := 8) (b := 8) (by omega) (by omega)).mpr (by omega)) ?_
              refine r_lload (q := 132) C 3 dX8_share_130 rfl rfl ?_
              refine r_aload_n (q := 133) C 4 dX8_share_132 rfl rfl ?_
              refine r_get (q := 136) (t := 0) C koX8 e0 7 (by decide) q707 rfl rfl dX8_share_133 rfl ?_
              refine r_bipush (q := 138) C (nI 8) dX8_share_136 (by decide) rfl ?_
              refine r_iload_n (q := 139) C 5 dX8_share_138 rfl rfl ?_
              refine r_imul (q := 140) C dX8_share_139 rfl ?_
              refine r_ti (show ((nI 8) * (nI k9) : Int32) = nI (8 * k9) from pk_mul 8 k9) ?_
              refine r_iload_n (q := 141) C 6 dX8_share_140 rfl rfl ?_
              refine r_iadd (q := 142) C dX8_share_141 rfl ?_
              refine r_ti (show ((nI (8 * k9)) + (nI i) : Int32) = nI (8 * k9 + i) from nI_add (8 * k9) i) ?_
              refine r_iald (q := 143) (t := 7) C ((ef1 7 (by omega)).trans h7) (8 * k9 + i) rfl (by omega) (by decide) dX8_share_142 rfl ?_
              have wb9_ := i6 (8 * k9 + i)
              refine r_ti (show ((fun p => nI (wn p)) (8 * k9 + i) : Int32) = nI (wn (8 * k9 + i)) from rfl) ?_
              refine r_i2l (q := 144) C dX8_share_143 rfl ?_
              refine r_tl (show ((nI (wn (8 * k9 + i))).toInt64 : Int64) = lN (wn (8 * k9 + i)) from nI_l (by omega)) ?_
              refine r_lmul (q := 145) C dX8_share_144 rfl ?_
              refine r_lload_n (q := 146) C 2 dX8_share_145 rfl rfl ?_
              refine r_lrem (q := 147) C dX8_share_146 hne rfl ?_
              show V g k 16 w2 0 0 (kQ g k (fun v w' => v = some (.long (shr9 fn wn k9 i)) ∧ MdAt g w' m0 (nI 0) tk gN rN tN fn wn gp by9 rD tD tV tT ∧ Fm w w') 0 0) 147 [(9, .int (nI 8)), (7, .long (shL (lN 0) (tlS (cw9 wn k9) 8) (cw9 wn k9) 8)), (3, .long (tlS (cw9 wn k9) 8)), (5, .long (lN 0)), (0, .ref m0), (1, .int (nI k9)), (2, .int (nI i))] [.long (shR (lN 0) (tlS (cw9 wn k9) 8) (cw9 wn k9) i)]
              refine r_lstore (q := 149) (lv' := [(9, .long (shR (lN 0) (tlS (cw9 wn k9) 8) (cw9 wn k9) i)), (7, .long (shL (lN 0) (tlS (cw9 wn k9) 8) (cw9 wn k9) 8)), (3, .long (tlS (cw9 wn k9) 8)), (5, .long (lN 0)), (0, .ref m0), (1, .int (nI k9)), (2, .int (nI i))]) C dX8_share_147 (by decide) rfl rfl ?_
              refine r_lconst (q := 150) C (lN 0) dX8_share_149 (by decide) rfl ?_
              refine r_lstore (q := 152) (lv' := [(11, .long (lN 0)), (9, .long (shR (lN 0) (tlS (cw9 wn k9) 8) (cw9 wn k9) i)), (7, .long (shL (lN 0) (tlS (cw9 wn k9) 8) (cw9 wn k9) 8)), (3, .long (tlS (cw9 wn k9) 8)), (5, .long (lN 0)), (0, .ref m0), (1, .int (nI k9)), (2, .int (nI i))]) C dX8_share_150 (by decide) rfl rfl ?_
              refine r_iconst (q := 153) C (nI 0) dX8_share_152 (by decide) rfl ?_
              refine r_istore (q := 155) (lv' := [(13, .int (nI 0)), (11, .long (lN 0)), (9, .long (shR (lN 0) (tlS (cw9 wn k9) 8) (cw9 wn k9) i)), (7, .long (shL (lN 0) (tlS (cw9 wn k9) 8) (cw9 wn k9) 8)), (3, .long (tlS (cw9 wn k9) 8)), (5, .long (lN 0)), (0, .ref m0), (1, .int (nI k9)), (2, .int (nI i))]) C dX8_share_153 (by decide) rfl rfl ?_
              refine r_sub (lv' := [(13, .int (nI 0)), (11, .long (lN 0)), (9, .long (shR (lN 0) (tlS (cw9 wn k9) 8) (cw9 wn k9) i)), (7, .long (shL (lN 0) (tlS (cw9 wn k9) 8) (cw9 wn k9) 8)), (3, .long (tlS (cw9 wn k9) 8)), (5, .long (lN 0)), (0, .ref m0), (1, .int (nI k9)), (2, .int (nI i))]) [0, 1, 2, 3, 4, 5, 6, 7, 8] rfl ?_
              have loop : ∀ (r o9 : Nat) (b9 : Nat) , o9 + r = 8 → (b9 = shB (lN 0) (tlS (cw9 wn k9) 8) (cw9 wn k9) i o9) → V g k 16 w2 0 0 (kQ g k (fun v w' => v = some (.long (shr9 fn wn k9 i)) ∧ MdAt g w' m0 (nI 0) tk gN rN tN fn wn gp by9 rD tD tV tT ∧ Fm w w') 0 0) 155 [(13, .int (nI o9)), (11, .long (lN b9)), (9, .long (shR (lN 0) (tlS (cw9 wn k9) 8) (cw9 wn k9) i)), (7, .long (shL (lN 0) (tlS (cw9 wn k9) 8) (cw9 wn k9) 8)), (3, .long (tlS (cw9 wn k9) 8)), (5, .long (lN 0)), (0, .ref m0), (1, .int (nI k9)), (2, .int (nI i))] [] := by
                intro r
                induction r with
                | zero =>
                  intro o9 b9  hi hb
                  obtain rfl : 8 = o9 := by omega
                  subst hb
                  have hbl := shB_le (net := lN 0) (total := tlS (cw9 wn k9) 8) (f := cw9 wn k9) (c := i) 8
                  refine r_iload (q := 157) C 0 dX8_share_155 rfl rfl ?_
                  refine r_bipush (q := 159) C (nI 8) dX8_share_157 (by decide) rfl ?_
                  refine r_icmp_ge_t (tgt := 220) C dX8_share_159 (by decide) ((nI_leI (a := 8) (b := 8) (by omega) (by omega)).mpr (by omega)) ?_
                  refine r_lload (q := 222) C 5 dX8_share_220 rfl rfl ?_
                  refine r_aload_n (q := 223) C 6 dX8_share_222 rfl rfl ?_
                  refine r_get (q := 226) (t := 0) C koX8 e0 7 (by decide) q707 rfl rfl dX8_share_223 rfl ?_
                  refine r_bipush (q := 228) C (nI 8) dX8_share_226 (by decide) rfl ?_
                  refine r_iload_n (q := 229) C 7 dX8_share_228 rfl rfl ?_
                  refine r_imul (q := 230) C dX8_share_229 rfl ?_
                  refine r_ti (show ((nI 8) * (nI k9) : Int32) = nI (8 * k9) from pk_mul 8 k9) ?_
                  refine r_iload_n (q := 231) C 8 dX8_share_230 rfl rfl ?_
                  refine r_iadd (q := 232) C dX8_share_231 rfl ?_
                  refine r_ti (show ((nI (8 * k9)) + (nI i) : Int32) = nI (8 * k9 + i) from nI_add (8 * k9) i) ?_
                  refine r_iald (q := 233) (t := 7) C ((ef1 7 (by omega)).trans h7) (8 * k9 + i) rfl (by omega) (by decide) dX8_share_232 rfl ?_
                  have wb9_ := i6 (8 * k9 + i)
                  refine r_ti (show ((fun p => nI (wn p)) (8 * k9 + i) : Int32) = nI (wn (8 * k9 + i)) from rfl) ?_
                  refine r_i2l (q := 234) C dX8_share_233 rfl ?_
                  refine r_tl (show ((nI (wn (8 * k9 + i))).toInt64 : Int64) = lN (wn (8 * k9 + i)) from nI_l (by omega)) ?_
                  refine r_lmul (q := 235) C dX8_share_234 rfl ?_
                  refine r_lload_n (q := 236) C 4 dX8_share_235 rfl rfl ?_
                  refine r_ldiv (q := 237) C dX8_share_236 hne rfl ?_
                  show V g k 16 w2 0 0 (kQ g k (fun v w' => v = some (.long (shr9 fn wn k9 i)) ∧ MdAt g w' m0 (nI 0) tk gN rN tN fn wn gp by9 rD tD tV tT ∧ Fm w w') 0 0) 237 [(13, .int (nI 8)), (11, .long (lN (shB (lN 0) (tlS (cw9 wn k9) 8) (cw9 wn k9) i 8))), (9, .long (shR (lN 0) (tlS (cw9 wn k9) 8) (cw9 wn k9) i)), (7, .long (shL (lN 0) (tlS (cw9 wn k9) 8) (cw9 wn k9) 8)), (3, .long (tlS (cw9 wn k9) 8)), (5, .long (lN 0)), (0, .ref m0), (1, .int (nI k9)), (2, .int (nI i))] [.long (shD (lN 0) (tlS (cw9 wn k9) 8) (cw9 wn k9) i)]
                  refine r_lload (q := 239) C 1 dX8_share_237 rfl rfl ?_
                  refine r_lload (q := 241) C 3 dX8_share_239 rfl rfl ?_
                  refine r_lcmp_ge (q := 242) (q2 := 245) (tgt := 249) C dX8_share_241 rfl dX8_share_242 (by decide) rfl (fun hc27 => ?_) (fun hc27 => ?_)
                  · refine r_lconst (q := 250) C (lN 0) dX8_share_249 (by decide) rfl ?_
                    refine r_ladd (q := 251) C dX8_share_250 rfl ?_
                    exact r_lret C rfl (by decide) (by decide) dX8_share_251 ⟨by unfold shr9; rw [if_pos hpos, if_neg hz]; unfold shA; rw [if_neg (Int64.not_lt.mpr hc27)]; exact congrArg (fun z => some (Value.long z)) (Int64.add_zero _), ⟨ad, _, _, _, _, e0, hks.kept (fun t _ _ => ef1 t (by omega)), ((ef1 3 (by omega)).trans h3), ((ef1 4 (by omega)).trans h4), ((ef1 5 (by omega)).trans h5), ((ef1 6 (by omega)).trans h6), ((ef1 7 (by omega)).trans h7), ((ef1 8 (by omega)).trans h8), ((ef1 9 (by omega)).trans h9), ((ef1 10 (by omega)).trans h10), hsc.kept (fun t _ _ => ef1 t (by omega)), ((ef1 16 (by omega)).trans h16), ((ef1 17 (by omega)).trans h17)⟩, fun t ht => ef1 t (by omega)⟩
                  · refine r_lconst (q := 246) C (lN 1) dX8_share_245 (by decide) rfl ?_
                    refine r_goto (tgt := 250) C dX8_share_246 (by decide) ?_
                    refine r_ladd (q := 251) C dX8_share_250 rfl ?_
                    exact r_lret C rfl (by decide) (by decide) dX8_share_251 ⟨by unfold shr9; rw [if_pos hpos, if_neg hz]; unfold shA; rw [if_pos (Int64.not_le.mp hc27)], ⟨ad, _, _, _, _, e0, hks.kept (fun t _ _ => ef1 t (by omega)), ((ef1 3 (by omega)).trans h3), ((ef1 4 (by omega)).trans h4), ((ef1 5 (by omega)).trans h5), ((ef1 6 (by omega)).trans h6), ((ef1 7 (by omega)).trans h7), ((ef1 8 (by omega)).trans h8), ((ef1 9 (by omega)).trans h9), ((ef1 10 (by omega)).trans h10), hsc.kept (fun t _ _ => ef1 t (by omega)), ((ef1 16 (by omega)).trans h16), ((ef1 17 (by omega)).trans h17)⟩, fun t ht => ef1 t (by omega)⟩
                | succ r ih =>
                  intro o9 b9  hi hb
                  refine r_iload (q := 157) C 0 dX8_share_155 rfl rfl ?_
                  refine r_bipush (q := 159) C (nI 8) dX8_share_157 (by decide) rfl ?_
                  refine r_icmp_ge_f (q := 162) (tgt := 220) C dX8_share_159 (by decide) rfl (fun z => absurd ((nI_leI (a := 8) (b := o9) (by omega) (by omega)).mp z) (by omega)) ?_
                  refine r_lload (q := 164) C 5 dX8_share_162 rfl rfl ?_
                  refine r_aload_n (q := 165) C 6 dX8_share_164 rfl rfl ?_
                  refine r_get (q := 168) (t := 0) C koX8 e0 7 (by decide) q707 rfl rfl dX8_share_165 rfl ?_
                  refine r_bipush (q := 170) C (nI 8) dX8_share_168 (by decide) rfl ?_
                  refine r_iload_n (q := 171) C 7 dX8_share_170 rfl rfl ?_
                  refine r_imul (q := 172) C dX8_share_171 rfl ?_
                  refine r_ti (show ((nI 8) * (nI k9) : Int32) = nI (8 * k9) from pk_mul 8 k9) ?_
                  refine r_iload (q := 174) C 0 dX8_share_172 rfl rfl ?_
                  refine r_iadd (q := 175) C dX8_share_174 rfl ?_
                  refine r_ti (show ((nI (8 * k9)) + (nI o9) : Int32) = nI (8 * k9 + o9) from nI_add (8 * k9) o9) ?_
                  refine r_iald (q := 176) (t := 7) C ((ef1 7 (by omega)).trans h7) (8 * k9 + o9) rfl (by omega) (by decide) dX8_share_175 rfl ?_
                  have wb9_ := i6 (8 * k9 + o9)
                  refine r_ti (show ((fun p => nI (wn p)) (8 * k9 + o9) : Int32) = nI (wn (8 * k9 + o9)) from rfl) ?_
                  refine r_i2l (q := 177) C dX8_share_176 rfl ?_
                  refine r_tl (show ((nI (wn (8 * k9 + o9))).toInt64 : Int64) = lN (wn (8 * k9 + o9)) from nI_l (by omega)) ?_
                  refine r_lmul (q := 178) C dX8_share_177 rfl ?_
                  refine r_lload_n (q := 179) C 4 dX8_share_178 rfl rfl ?_
                  refine r_lrem (q := 180) C dX8_share_179 hne rfl ?_
                  show V g k 16 w2 0 0 (kQ g k (fun v w' => v = some (.long (shr9 fn wn k9 i)) ∧ MdAt g w' m0 (nI 0) tk gN rN tN fn wn gp by9 rD tD tV tT ∧ Fm w w') 0 0) 180 [(13, .int (nI o9)), (11, .long (lN b9)), (9, .long (shR (lN 0) (tlS (cw9 wn k9) 8) (cw9 wn k9) i)), (7, .long (shL (lN 0) (tlS (cw9 wn k9) 8) (cw9 wn k9) 8)), (3, .long (tlS (cw9 wn k9) 8)), (5, .long (lN 0)), (0, .ref m0), (1, .int (nI k9)), (2, .int (nI i))] [.long (shR (lN 0) (tlS (cw9 wn k9) 8) (cw9 wn k9) o9)]
                  refine r_lstore (q := 182) (lv' := [(14, .long (shR (lN 0) (tlS (cw9 wn k9) 8) (cw9 wn k9) o9)), (13, .int (nI o9)), (11, .long (lN b9)), (9, .long (shR (lN 0) (tlS (cw9 wn k9) 8) (cw9 wn k9) i)), (7, .long (shL (lN 0) (tlS (cw9 wn k9) 8) (cw9 wn k9) 8)), (3, .long (tlS (cw9 wn k9) 8)), (5, .long (lN 0)), (0, .ref m0), (1, .int (nI k9)), (2, .int (nI i))]) C dX8_share_180 (by decide) rfl rfl ?_
                  refine r_lload (q := 184) C 2 dX8_share_182 rfl rfl ?_
                  refine r_lload (q := 186) C 0 dX8_share_184 rfl rfl ?_
                  refine r_lload (q := 188) C 3 dX8_share_186 rfl rfl ?_
                  refine r_lcmp_gt (q := 189) (q2 := 192) (tgt := 206) C dX8_share_188 rfl dX8_share_189 (by decide) rfl (fun hc31 => ?_) (fun hc31 => ?_)
                  · refine r_lconst (q := 207) C (lN 1) dX8_share_206 (by decide) rfl ?_
                    refine r_goto (tgt := 211) C dX8_share_207 (by decide) ?_
                    refine r_ladd (q := 212) C dX8_share_211 rfl ?_
                    refine r_tl (show ((lN b9) + (lN 1) : Int64) = lN (b9 + 1) from lN_add b9 1) ?_
                    refine r_lstore (q := 214) (lv' := [(11, .long (lN (b9 + 1))), (14, .long (shR (lN 0) (tlS (cw9 wn k9) 8) (cw9 wn k9) o9)), (13, .int (nI o9)), (9, .long (shR (lN 0) (tlS (cw9 wn k9) 8) (cw9 wn k9) i)), (7, .long (shL (lN 0) (tlS (cw9 wn k9) 8) (cw9 wn k9) 8)), (3, .long (tlS (cw9 wn k9) 8)), (5, .long (lN 0)), (0, .ref m0), (1, .int (nI k9)), (2, .int (nI i))]) C dX8_share_212 (by decide) rfl rfl ?_
                    refine r_iinc (q := 217) (v := nI (o9 + 1)) (lv' := [(13, .int (nI (o9 + 1))), (11, .long (lN (b9 + 1))), (14, .long (shR (lN 0) (tlS (cw9 wn k9) 8) (cw9 wn k9) o9)), (9, .long (shR (lN 0) (tlS (cw9 wn k9) 8) (cw9 wn k9) i)), (7, .long (shL (lN 0) (tlS (cw9 wn k9) 8) (cw9 wn k9) 8)), (3, .long (tlS (cw9 wn k9) 8)), (5, .long (lN 0)), (0, .ref m0), (1, .int (nI k9)), (2, .int (nI i))]) C 2 dX8_share_214 rfl (nI_1 o9) (by decide) rfl rfl ?_
                    refine r_goto (tgt := 155) C dX8_share_217 (by decide) ?_
                    refine r_sub (lv' := [(13, .int (nI (o9 + 1))), (11, .long (lN (b9 + 1))), (9, .long (shR (lN 0) (tlS (cw9 wn k9) 8) (cw9 wn k9) i)), (7, .long (shL (lN 0) (tlS (cw9 wn k9) 8) (cw9 wn k9) 8)), (3, .long (tlS (cw9 wn k9) 8)), (5, .long (lN 0)), (0, .ref m0), (1, .int (nI k9)), (2, .int (nI i))]) [0, 1, 3, 4, 5, 6, 7, 8, 9] rfl ?_
                    exact ih (o9 + 1) (b9 + 1) (by omega) (by rw [shB, if_pos (Or.inl hc31), hb])
                  · refine r_lload (q := 194) C 0 dX8_share_192 rfl rfl ?_
                    refine r_lload (q := 196) C 3 dX8_share_194 rfl rfl ?_
                    refine r_lcmp_ne (q := 197) (q2 := 200) (tgt := 210) C dX8_share_196 rfl dX8_share_197 (by decide) rfl (fun hc34 => ?_) (fun hc34 => ?_)
                    · refine r_lconst (q := 211) C (lN 0) dX8_share_210 (by decide) rfl ?_
                      refine r_ladd (q := 212) C dX8_share_211 rfl ?_
                      refine r_tl (show ((lN b9) + (lN 0) : Int64) = lN (b9 + 0) from lN_add b9 0) ?_
                      refine r_lstore (q := 214) (lv' := [(11, .long (lN (b9 + 0))), (14, .long (shR (lN 0) (tlS (cw9 wn k9) 8) (cw9 wn k9) o9)), (13, .int (nI o9)), (9, .long (shR (lN 0) (tlS (cw9 wn k9) 8) (cw9 wn k9) i)), (7, .long (shL (lN 0) (tlS (cw9 wn k9) 8) (cw9 wn k9) 8)), (3, .long (tlS (cw9 wn k9) 8)), (5, .long (lN 0)), (0, .ref m0), (1, .int (nI k9)), (2, .int (nI i))]) C dX8_share_212 (by decide) rfl rfl ?_
                      refine r_iinc (q := 217) (v := nI (o9 + 1)) (lv' := [(13, .int (nI (o9 + 1))), (11, .long (lN (b9 + 0))), (14, .long (shR (lN 0) (tlS (cw9 wn k9) 8) (cw9 wn k9) o9)), (9, .long (shR (lN 0) (tlS (cw9 wn k9) 8) (cw9 wn k9) i)), (7, .long (shL (lN 0) (tlS (cw9 wn k9) 8) (cw9 wn k9) 8)), (3, .long (tlS (cw9 wn k9) 8)), (5, .long (lN 0)), (0, .ref m0), (1, .int (nI k9)), (2, .int (nI i))]) C 2 dX8_share_214 rfl (nI_1 o9) (by decide) rfl rfl ?_
                      refine r_goto (tgt := 155) C dX8_share_217 (by decide) ?_
                      refine r_sub (lv' := [(13, .int (nI (o9 + 1))), (11, .long (lN (b9 + 0))), (9, .long (shR (lN 0) (tlS (cw9 wn k9) 8) (cw9 wn k9) i)), (7, .long (shL (lN 0) (tlS (cw9 wn k9) 8) (cw9 wn k9) 8)), (3, .long (tlS (cw9 wn k9) 8)), (5, .long (lN 0)), (0, .ref m0), (1, .int (nI k9)), (2, .int (nI i))]) [0, 1, 3, 4, 5, 6, 7, 8, 9] rfl ?_
                      exact ih (o9 + 1) b9 (by omega) (by rw [shB, if_neg (fun z => z.elim hc31 (fun q => hc34 q.1)), hb]; rfl)
                    · refine r_iload (q := 202) C 1 dX8_share_200 rfl rfl ?_
                      refine r_iload_n (q := 203) C 9 dX8_share_202 rfl rfl ?_
                      refine r_icmp_ge (q := 206) (tgt := 210) C dX8_share_203 (by decide) rfl (fun hc37 => ?_) (fun hc37 => ?_)
                      · have hc37 : i ≤ o9 := (nI_leI (a := i) (b := o9) (by omega) (by omega)).mp hc37
                        refine r_lconst (q := 211) C (lN 0) dX8_share_210 (by decide) rfl ?_
                        refine r_ladd (q := 212) C dX8_share_211 rfl ?_
                        refine r_tl (show ((lN b9) + (lN 0) : Int64) = lN (b9 + 0) from lN_add b9 0) ?_
                        refine r_lstore (q := 214) (lv' := [(11, .long (lN (b9 + 0))), (14, .long (shR (lN 0) (tlS (cw9 wn k9) 8) (cw9 wn k9) o9)), (13, .int (nI o9)), (9, .long (shR (lN 0) (tlS (cw9 wn k9) 8) (cw9 wn k9) i)), (7, .long (shL (lN 0) (tlS (cw9 wn k9) 8) (cw9 wn k9) 8)), (3, .long (tlS (cw9 wn k9) 8)), (5, .long (lN 0)), (0, .ref m0), (1, .int (nI k9)), (2, .int (nI i))]) C dX8_share_212 (by decide) rfl rfl ?_
                        refine r_iinc (q := 217) (v := nI (o9 + 1)) (lv' := [(13, .int (nI (o9 + 1))), (11, .long (lN (b9 + 0))), (14, .long (shR (lN 0) (tlS (cw9 wn k9) 8) (cw9 wn k9) o9)), (9, .long (shR (lN 0) (tlS (cw9 wn k9) 8) (cw9 wn k9) i)), (7, .long (shL (lN 0) (tlS (cw9 wn k9) 8) (cw9 wn k9) 8)), (3, .long (tlS (cw9 wn k9) 8)), (5, .long (lN 0)), (0, .ref m0), (1, .int (nI k9)), (2, .int (nI i))]) C 2 dX8_share_214 rfl (nI_1 o9) (by decide) rfl rfl ?_
                        refine r_goto (tgt := 155) C dX8_share_217 (by decide) ?_
                        refine r_sub (lv' := [(13, .int (nI (o9 + 1))), (11, .long (lN (b9 + 0))), (9, .long (shR (lN 0) (tlS (cw9 wn k9) 8) (cw9 wn k9) i)), (7, .long (shL (lN 0) (tlS (cw9 wn k9) 8) (cw9 wn k9) 8)), (3, .long (tlS (cw9 wn k9) 8)), (5, .long (lN 0)), (0, .ref m0), (1, .int (nI k9)), (2, .int (nI i))]) [0, 1, 3, 4, 5, 6, 7, 8, 9] rfl ?_
                        exact ih (o9 + 1) b9 (by omega) (by rw [shB, if_neg (fun z => z.elim hc31 (fun q => absurd q.2 (by omega))), hb]; rfl)
                      · have hc37 : ¬ i ≤ o9 := fun z => hc37 ((nI_leI (a := i) (b := o9) (by omega) (by omega)).mpr z)
                        refine r_lconst (q := 207) C (lN 1) dX8_share_206 (by decide) rfl ?_
                        refine r_goto (tgt := 211) C dX8_share_207 (by decide) ?_
                        refine r_ladd (q := 212) C dX8_share_211 rfl ?_
                        refine r_tl (show ((lN b9) + (lN 1) : Int64) = lN (b9 + 1) from lN_add b9 1) ?_
                        refine r_lstore (q := 214) (lv' := [(11, .long (lN (b9 + 1))), (14, .long (shR (lN 0) (tlS (cw9 wn k9) 8) (cw9 wn k9) o9)), (13, .int (nI o9)), (9, .long (shR (lN 0) (tlS (cw9 wn k9) 8) (cw9 wn k9) i)), (7, .long (shL (lN 0) (tlS (cw9 wn k9) 8) (cw9 wn k9) 8)), (3, .long (tlS (cw9 wn k9) 8)), (5, .long (lN 0)), (0, .ref m0), (1, .int (nI k9)), (2, .int (nI i))]) C dX8_share_212 (by decide) rfl rfl ?_
                        refine r_iinc (q := 217) (v := nI (o9 + 1)) (lv' := [(13, .int (nI (o9 + 1))), (11, .long (lN (b9 + 1))), (14, .long (shR (lN 0) (tlS (cw9 wn k9) 8) (cw9 wn k9) o9)), (9, .long (shR (lN 0) (tlS (cw9 wn k9) 8) (cw9 wn k9) i)), (7, .long (shL (lN 0) (tlS (cw9 wn k9) 8) (cw9 wn k9) 8)), (3, .long (tlS (cw9 wn k9) 8)), (5, .long (lN 0)), (0, .ref m0), (1, .int (nI k9)), (2, .int (nI i))]) C 2 dX8_share_214 rfl (nI_1 o9) (by decide) rfl rfl ?_
                        refine r_goto (tgt := 155) C dX8_share_217 (by decide) ?_
                        refine r_sub (lv' := [(13, .int (nI (o9 + 1))), (11, .long (lN (b9 + 1))), (9, .long (shR (lN 0) (tlS (cw9 wn k9) 8) (cw9 wn k9) i)), (7, .long (shL (lN 0) (tlS (cw9 wn k9) 8) (cw9 wn k9) 8)), (3, .long (tlS (cw9 wn k9) 8)), (5, .long (lN 0)), (0, .ref m0), (1, .int (nI k9)), (2, .int (nI i))]) [0, 1, 3, 4, 5, 6, 7, 8, 9] rfl ?_
                        exact ih (o9 + 1) (b9 + 1) (by omega) (by rw [shB, if_pos (Or.inr ⟨hc34, by omega⟩), hb])
              exact loop 8 0 0 (by omega) rfl
            | succ r ih =>
              intro c8   hi 
              refine r_iload (q := 96) C 0 dX8_share_94 rfl rfl ?_
              refine r_bipush (q := 98) C (nI 8) dX8_share_96 (by decide) rfl ?_
              refine r_icmp_ge_f (q := 101) (tgt := 130) C dX8_share_98 (by decide) rfl (fun z => absurd ((nI_leI (a := 8) (b := c8) (by omega) (by omega)).mp z) (by omega)) ?_
              refine r_lload (q := 103) C 1 dX8_share_101 rfl rfl ?_
              refine r_lload (q := 105) C 3 dX8_share_103 rfl rfl ?_
              refine r_aload_n (q := 106) C 4 dX8_share_105 rfl rfl ?_
              refine r_get (q := 109) (t := 0) C koX8 e0 7 (by decide) q707 rfl rfl dX8_share_106 rfl ?_
              refine r_bipush (q := 111) C (nI 8) dX8_share_109 (by decide) rfl ?_
              refine r_iload_n (q := 112) C 5 dX8_share_111 rfl rfl ?_
              refine r_imul (q := 113) C dX8_share_112 rfl ?_
              refine r_ti (show ((nI 8) * (nI k9) : Int32) = nI (8 * k9) from pk_mul 8 k9) ?_
              refine r_iload (q := 115) C 0 dX8_share_113 rfl rfl ?_
              refine r_iadd (q := 116) C dX8_share_115 rfl ?_
              refine r_ti (show ((nI (8 * k9)) + (nI c8) : Int32) = nI (8 * k9 + c8) from nI_add (8 * k9) c8) ?_
              refine r_iald (q := 117) (t := 7) C ((ef1 7 (by omega)).trans h7) (8 * k9 + c8) rfl (by omega) (by decide) dX8_share_116 rfl ?_
              have wb9_ := i6 (8 * k9 + c8)
              refine r_ti (show ((fun p => nI (wn p)) (8 * k9 + c8) : Int32) = nI (wn (8 * k9 + c8)) from rfl) ?_
              refine r_i2l (q := 118) C dX8_share_117 rfl ?_
              refine r_tl (show ((nI (wn (8 * k9 + c8))).toInt64 : Int64) = lN (wn (8 * k9 + c8)) from nI_l (by omega)) ?_
              refine r_lmul (q := 119) C dX8_share_118 rfl ?_
              refine r_lload_n (q := 120) C 2 dX8_share_119 rfl rfl ?_
              refine r_ldiv (q := 121) C dX8_share_120 hne rfl ?_
              refine r_lsub (q := 122) C dX8_share_121 rfl ?_
              show V g k 16 w2 0 0 (kQ g k (fun v w' => v = some (.long (shr9 fn wn k9 i)) ∧ MdAt g w' m0 (nI 0) tk gN rN tN fn wn gp by9 rD tD tV tT ∧ Fm w w') 0 0) 122 [(9, .int (nI c8)), (7, .long (shL (lN 0) (tlS (cw9 wn k9) 8) (cw9 wn k9) c8)), (3, .long (tlS (cw9 wn k9) 8)), (5, .long (lN 0)), (0, .ref m0), (1, .int (nI k9)), (2, .int (nI i))] [.long (shL (lN 0) (tlS (cw9 wn k9) 8) (cw9 wn k9) (c8 + 1))]
              refine r_lstore (q := 124) (lv' := [(7, .long (shL (lN 0) (tlS (cw9 wn k9) 8) (cw9 wn k9) (c8 + 1))), (9, .int (nI c8)), (3, .long (tlS (cw9 wn k9) 8)), (5, .long (lN 0)), (0, .ref m0), (1, .int (nI k9)), (2, .int (nI i))]) C dX8_share_122 (by decide) rfl rfl ?_
              refine r_iinc (q := 127) (v := nI (c8 + 1)) (lv' := [(9, .int (nI (c8 + 1))), (7, .long (shL (lN 0) (tlS (cw9 wn k9) 8) (cw9 wn k9) (c8 + 1))), (3, .long (tlS (cw9 wn k9) 8)), (5, .long (lN 0)), (0, .ref m0), (1, .int (nI k9)), (2, .int (nI i))]) C 1 dX8_share_124 rfl (nI_1 c8) (by decide) rfl rfl ?_
              refine r_goto (tgt := 94) C dX8_share_127 (by decide) ?_
              refine r_sub (lv' := [(9, .int (nI (c8 + 1))), (7, .long (shL (lN 0) (tlS (cw9 wn k9) 8) (cw9 wn k9) (c8 + 1))), (3, .long (tlS (cw9 wn k9) 8)), (5, .long (lN 0)), (0, .ref m0), (1, .int (nI k9)), (2, .int (nI i))]) [0, 1, 2, 3, 4, 5, 6] rfl ?_
              exact ih (c8 + 1) (by omega)
          exact loop 8 0 (by omega)
    | succ r ih =>
      intro j   hi 
      refine r_iload (q := 30) C 0 dX8_share_28 rfl rfl ?_
      refine r_bipush (q := 32) C (nI 8) dX8_share_30 (by decide) rfl ?_
      refine r_icmp_ge_f (q := 35) (tgt := 57) C dX8_share_32 (by decide) rfl (fun z => absurd ((nI_leI (a := 8) (b := j) (by omega) (by omega)).mp z) (by omega)) ?_
      refine r_lload_n (q := 36) C 1 dX8_share_35 rfl rfl ?_
      refine r_aload_n (q := 37) C 2 dX8_share_36 rfl rfl ?_
      refine r_get (q := 40) (t := 0) C koX8 e0 7 (by decide) q707 rfl rfl dX8_share_37 rfl ?_
      refine r_bipush (q := 42) C (nI 8) dX8_share_40 (by decide) rfl ?_
      refine r_iload_n (q := 43) C 3 dX8_share_42 rfl rfl ?_
      refine r_imul (q := 44) C dX8_share_43 rfl ?_
      refine r_ti (show ((nI 8) * (nI k9) : Int32) = nI (8 * k9) from pk_mul 8 k9) ?_
      refine r_iload (q := 46) C 0 dX8_share_44 rfl rfl ?_
      refine r_iadd (q := 47) C dX8_share_46 rfl ?_
      refine r_ti (show ((nI (8 * k9)) + (nI j) : Int32) = nI (8 * k9 + j) from nI_add (8 * k9) j) ?_
      refine r_iald (q := 48) (t := 7) C ((ef1 7 (by omega)).trans h7) (8 * k9 + j) rfl (by omega) (by decide) dX8_share_47 rfl ?_
      have wb9_ := i6 (8 * k9 + j)
      refine r_ti (show ((fun p => nI (wn p)) (8 * k9 + j) : Int32) = nI (wn (8 * k9 + j)) from rfl) ?_
      refine r_i2l (q := 49) C dX8_share_48 rfl ?_
      refine r_tl (show ((nI (wn (8 * k9 + j))).toInt64 : Int64) = lN (wn (8 * k9 + j)) from nI_l (by omega)) ?_
      refine r_ladd (q := 50) C dX8_share_49 rfl ?_
      refine r_lstore_n (q := 51) (lv' := [(3, .long ((tlS (cw9 wn k9) j) + (lN (wn (8 * k9 + j))))), (5, .int (nI j)), (0, .ref m0), (1, .int (nI k9)), (2, .int (nI i))]) C dX8_share_50 (by decide) rfl rfl ?_
      refine r_iinc (q := 54) (v := nI (j + 1)) (lv' := [(5, .int (nI (j + 1))), (3, .long ((tlS (cw9 wn k9) j) + (lN (wn (8 * k9 + j))))), (0, .ref m0), (1, .int (nI k9)), (2, .int (nI i))]) C 1 dX8_share_51 rfl (nI_1 j) (by decide) rfl rfl ?_
      refine r_goto (tgt := 28) C dX8_share_54 (by decide) ?_
      refine r_sub (lv' := [(5, .int (nI (j + 1))), (3, .long ((tlS (cw9 wn k9) j) + (lN (wn (8 * k9 + j))))), (0, .ref m0), (1, .int (nI k9)), (2, .int (nI i))]) [0, 1, 2, 3, 4] rfl ?_
      exact ih (j + 1) (by omega)
  exact loop 8 0 (by omega)
