/-! the reference: root -/
set_option maxHeartbeats 4000000 in
set_option maxRecDepth 20000 in
theorem y_root_n {l : Launch} {g : cx_G} {w : wd_T} {c m0 tk gN rN tN : Nat} {fl : Int32} {fn wn : Nat → Nat} {gp by9 rD tD tV tT : Nat → Int32} (hM : MdAt g w m0 fl tk gN rN tN fn wn gp by9 rD tD tV tT) (hI : Iv9 c tk gN rN tN fn wn by9 tD tV tT) {dy x : Int32} (hx : x < 0 ∨ nI 32 ≤ x) : Mt l g yX8_root cX8_root 6 (some .int) 4 0 0 w [.ref m0, .int dy, .int x] (fun v w' => v = some (.int (-1)) ∧ MdAt g w' m0 (nI 0) tk gN rN tN fn wn gp by9 rD tD tV tT ∧ Fm w w') := by
  refine mt_of RX8 "root" rfl rfl (by decide) (Nat.le_of_ble_eq_true rfl) [(0, .ref m0), (1, .int dy), (2, .int x)] rfl ?_
  intro k hkl C hin
  subst hkl
  obtain ⟨ad, rS, fS, lv, fo, h0, hks, h3, h4, h5, h6, h7, h8, h9, h10, hsc, h16, h17⟩ := id hM
  obtain ⟨i0, i1, i2, i3, i4, i5, i6, i7, i8, i9, i10⟩ := id hI
  refine r_aload_n (q := 1) C 0 dX8_root_0 rfl rfl ?_
  refine r_iconst (q := 2) C (nI 0) dX8_root_1 (by decide) rfl ?_
  refine r_put (q := 5) (t := 0) (w' := wd_set w 0 m0 (mo ad (nI tN) (nI tk) (nI (tk + gN)) (nI gN) (nI rN) (nI 0) rS fS)) C koX8 h0 15 (by decide) q715 rfl rfl rfl rfl (Nat.le_of_ble_eq_true rfl) dX8_root_2 rfl rfl ?_
  refine r_iconst (q := 6) C (nI 0) dX8_root_5 (by decide) rfl ?_
  refine r_istore_n (q := 7) (lv' := [(3, .int (nI 0)), (0, .ref m0), (1, .int dy), (2, .int x)]) C dX8_root_6 (by decide) rfl rfl ?_
  refine r_iconst (q := 8) C (nI 0) dX8_root_7 (by decide) rfl ?_
  refine r_istore (q := 10) (lv' := [(4, .int (nI 0)), (3, .int (nI 0)), (0, .ref m0), (1, .int dy), (2, .int x)]) C dX8_root_8 (by decide) rfl rfl ?_
  refine r_sub (lv' := [(4, .int (nI 0)), (3, .int (nI 0)), (0, .ref m0), (1, .int dy), (2, .int x)]) [0, 1, 2, 3, 4] rfl ?_
  have f0 : ∀ t, t ≠ 0 → t ≠ 16 → (wd_set w 0 m0 (mo ad (nI tN) (nI tk) (nI (tk + gN)) (nI gN) (nI rN) (nI 0) rS fS)) t = w t := fun t a _ => wd_ne a
  have loop : ∀ (u7 i9 : Nat) (lv1 : Nat → Int32) (w1 : wd_T), i9 + u7 = rN → (w1 0 = some (m0, mo ad (nI tN) (nI tk) (nI (tk + gN)) (nI gN) (nI rN) (nI 0) rS fS)) → (w1 16 = some (ad 16, aB g 6400 lv1)) → (∀ p, p < 32 * lfN rD dy i9 → lv1 p = lfL by9 rD dy i9 p) → (∀ t, t ≠ 0 → t ≠ 16 → w1 t = w t) → V g k 6 w1 0 0 (kQ g k (fun v w' => v = some (.int (-1)) ∧ MdAt g w' m0 (nI 0) tk gN rN tN fn wn gp by9 rD tD tV tT ∧ Fm w w') 0 0) 10 [(4, .int (nI i9)), (3, .int (nI (lfN rD dy i9))), (0, .ref m0), (1, .int dy), (2, .int x)] [] := by
    intro u7
    induction u7 with
    | zero =>
      intro i9 lv1 w1 hi g0 g16 gL gf
      obtain rfl : rN = i9 := by omega
      refine r_iload (q := 12) C 0 dX8_root_10 rfl rfl ?_
      refine r_aload_n (q := 13) C 2 dX8_root_12 rfl rfl ?_
      refine r_get (q := 16) (t := 0) C koX8 g0 14 (by decide) q714 rfl rfl dX8_root_13 rfl ?_
      refine r_icmp_ge_t (tgt := 83) C dX8_root_16 (by decide) ((nI_leI (a := rN) (b := rN) (by omega) (by omega)).mpr (by omega)) ?_
      have hle := lfN_le (rD := rD) (dy := dy) rN
      refine r_iload_n (q := 84) C 1 dX8_root_83 rfl rfl ?_
      refine r_if_eq (q := 87) (tgt := 98) C dX8_root_84 (by decide) rfl (fun hc1 => ?_) (fun hc1 => ?_)
      · have hc1 : (lfN rD dy rN) = 0 := (nI_eq (a := (lfN rD dy rN)) (b := 0) (by omega) (by omega)).mp hc1
        refine r_iconst (q := 99) C ((-1)) dX8_root_98 (by decide) rfl ?_
        exact r_iret C rfl (by decide) (by decide) dX8_root_99 ⟨rfl, ⟨ad, _, _, _, _, g0, hks.kept (fun t _ _ => gf t (by omega) (by omega)), ((gf 3 (by decide) (by decide)).trans h3), ((gf 4 (by decide) (by decide)).trans h4), ((gf 5 (by decide) (by decide)).trans h5), ((gf 6 (by decide) (by decide)).trans h6), ((gf 7 (by decide) (by decide)).trans h7), ((gf 8 (by decide) (by decide)).trans h8), ((gf 9 (by decide) (by decide)).trans h9), ((gf 10 (by decide) (by decide)).trans h10), hsc.kept (fun t _ _ => gf t (by omega) (by omega)), g16, ((gf 17 (by decide) (by decide)).trans h17)⟩, fun t ht => gf t (by omega) (by omega)⟩
      · have hc1 : ¬ (lfN rD dy rN) = 0 := fun z => hc1 ((nI_eq (a := (lfN rD dy rN)) (b := 0) (by omega) (by omega)).mpr z)
        refine r_iload_n (q := 88) C 4 dX8_root_87 rfl rfl ?_
        refine r_i2l (q := 89) C dX8_root_88 rfl ?_
        refine r_ldc2 (q := 92) (v := lN 31) C dX8_root_89 q918 rfl ?_
        refine r_callS (q := 95) (As := [.long x.toInt64, .long (lN 31)]) (st := []) C (m_in_n (b := 31) (in_i (by decide) hx) (by decide)) q787 q785 q786 q9 ⟨by decide, by decide⟩ (show (parseMethodDescriptor yX8_isIn.desc).map (fun d => d.parameters.length) = some 2 by decide +kernel) (by decide) (by decide) (by decide) (by decide) (Nat.le_of_ble_eq_true rfl) rfl dX8_root_92 rfl ?_
        rintro v9 w4 ⟨rfl, rfl⟩
        show V g k 6 w1 0 0 (kQ g k (fun v w' => v = some (.int (-1)) ∧ MdAt g w' m0 (nI 0) tk gN rN tN fn wn gp by9 rD tD tV tT ∧ Fm w w') 0 0) 95 [(4, .int (nI rN)), (3, .int (nI (lfN rD dy rN))), (0, .ref m0), (1, .int dy), (2, .int x)] [.int (nI 0)]
        refine r_if_ne_f (q := 98) (tgt := 100) C dX8_root_95 (by decide) rfl (by decide) ?_
        refine r_iconst (q := 99) C ((-1)) dX8_root_98 (by decide) rfl ?_
        exact r_iret C rfl (by decide) (by decide) dX8_root_99 ⟨rfl, ⟨ad, _, _, _, _, g0, hks.kept (fun t _ _ => gf t (by omega) (by omega)), ((gf 3 (by decide) (by decide)).trans h3), ((gf 4 (by decide) (by decide)).trans h4), ((gf 5 (by decide) (by decide)).trans h5), ((gf 6 (by decide) (by decide)).trans h6), ((gf 7 (by decide) (by decide)).trans h7), ((gf 8 (by decide) (by decide)).trans h8), ((gf 9 (by decide) (by decide)).trans h9), ((gf 10 (by decide) (by decide)).trans h10), hsc.kept (fun t _ _ => gf t (by omega) (by omega)), g16, ((gf 17 (by decide) (by decide)).trans h17)⟩, fun t ht => gf t (by omega) (by omega)⟩
    | succ u7 ih =>
      intro i9 lv1 w1 hi g0 g16 gL gf
      have hle := lfN_le (rD := rD) (dy := dy) i9
      refine r_iload (q := 12) C 0 dX8_root_10 rfl rfl ?_
      refine r_aload_n (q := 13) C 2 dX8_root_12 rfl rfl ?_
      refine r_get (q := 16) (t := 0) C koX8 g0 14 (by decide) q714 rfl rfl dX8_root_13 rfl ?_
      refine r_icmp_ge_f (q := 19) (tgt := 83) C dX8_root_16 (by decide) rfl (fun z => absurd ((nI_leI (a := rN) (b := i9) (by omega) (by omega)).mp z) (by omega)) ?_
      refine r_aload_n (q := 20) C 2 dX8_root_19 rfl rfl ?_
      refine r_get (q := 23) (t := 0) C koX8 g0 13 (by decide) q713 rfl rfl dX8_root_20 rfl ?_
      refine r_iload (q := 25) C 0 dX8_root_23 rfl rfl ?_
      refine r_iald (q := 26) (t := 10) C ((gf 10 (by decide) (by decide)).trans h10) i9 rfl (by omega) (by decide) dX8_root_25 rfl ?_
      refine r_iload_n (q := 27) C 3 dX8_root_26 rfl rfl ?_
      refine r_icmp_ne (q := 30) (tgt := 77) C dX8_root_27 (by decide) rfl (fun hc6 => ?_) (fun hc6 => ?_)
      · refine r_iinc (q := 80) (v := nI (i9 + 1)) (lv' := [(4, .int (nI (i9 + 1))), (3, .int (nI (lfN rD dy i9))), (0, .ref m0), (1, .int dy), (2, .int x)]) C 0 dX8_root_77 rfl (nI_1 i9) (by decide) rfl rfl ?_
        refine r_goto (tgt := 10) C dX8_root_80 (by decide) ?_
        refine r_sub (lv' := [(4, .int (nI (i9 + 1))), (3, .int (nI (lfN rD dy i9))), (0, .ref m0), (1, .int dy), (2, .int x)]) [0, 1, 2, 3, 4] rfl ?_
        rw [← lfN_n hc6]
        exact ih (i9 + 1) lv1 w1 (by omega) g0 g16 (by rw [lfN_n hc6, lfL_n hc6]; exact gL) gf
      · refine r_iconst (q := 31) C (nI 0) dX8_root_30 (by decide) rfl ?_
        refine r_istore (q := 33) (lv' := [(5, .int (nI 0)), (4, .int (nI i9)), (3, .int (nI (lfN rD dy i9))), (0, .ref m0), (1, .int dy), (2, .int x)]) C dX8_root_31 (by decide) rfl rfl ?_
        refine r_sub (lv' := [(5, .int (nI 0)), (4, .int (nI i9)), (3, .int (nI (lfN rD dy i9))), (0, .ref m0), (1, .int dy), (2, .int x)]) [0, 1, 2, 3, 4, 5] rfl ?_
        have loop2 : ∀ (u8 c8 : Nat)  (w2 : wd_T), c8 + u8 = 32 → (w2 0 = some (m0, mo ad (nI tN) (nI tk) (nI (tk + gN)) (nI gN) (nI rN) (nI 0) rS fS)) → (w2 16 = some (ad 16, aB g 6400 (clF lv1 (32 * lfN rD dy i9) c8 (fun j => by9 (73 * i9 + (41 + j)))))) → (∀ t, t ≠ 0 → t ≠ 16 → w2 t = w t) → V g k 6 w2 0 0 (kQ g k (fun v w' => v = some (.int (-1)) ∧ MdAt g w' m0 (nI 0) tk gN rN tN fn wn gp by9 rD tD tV tT ∧ Fm w w') 0 0) 33 [(5, .int (nI c8)), (4, .int (nI i9)), (3, .int (nI (lfN rD dy i9))), (0, .ref m0), (1, .int dy), (2, .int x)] [] := by
          intro u8
          induction u8 with
          | zero =>
            intro c8  w2 hi k0 k16 gf2
            obtain rfl : 32 = c8 := by omega
            refine r_iload (q := 35) C 0 dX8_root_33 rfl rfl ?_
            refine r_bipush (q := 37) C (nI 32) dX8_root_35 (by decide) rfl ?_
            refine r_icmp_ge_t (tgt := 74) C dX8_root_37 (by decide) ((nI_leI (a := 32) (b := 32) (by omega) (by omega)).mpr (by omega)) ?_
            refine r_iinc (q := 77) (v := nI (lfN rD dy i9 + 1)) (lv' := [(3, .int (nI (lfN rD dy i9 + 1))), (5, .int (nI 32)), (4, .int (nI i9)), (0, .ref m0), (1, .int dy), (2, .int x)]) C 2 dX8_root_74 rfl (nI_1 (lfN rD dy i9)) (by decide) rfl rfl ?_
            refine r_iinc (q := 80) (v := nI (i9 + 1)) (lv' := [(4, .int (nI (i9 + 1))), (3, .int (nI (lfN rD dy i9 + 1))), (5, .int (nI 32)), (0, .ref m0), (1, .int dy), (2, .int x)]) C 2 dX8_root_77 rfl (nI_1 i9) (by decide) rfl rfl ?_
            refine r_goto (tgt := 10) C dX8_root_80 (by decide) ?_
            refine r_sub (lv' := [(4, .int (nI (i9 + 1))), (3, .int (nI (lfN rD dy i9 + 1))), (0, .ref m0), (1, .int dy), (2, .int x)]) [0, 1, 3, 4, 5] rfl ?_
            rw [← lfN_y hc6]
            exact ih (i9 + 1) _ w2 (by omega) k0 k16 (lfL_cl hc6 gL) gf2
          | succ u8 ih2 =>
            intro c8  w2 hi k0 k16 gf2
            refine r_iload (q := 35) C 0 dX8_root_33 rfl rfl ?_
            refine r_bipush (q := 37) C (nI 32) dX8_root_35 (by decide) rfl ?_
            refine r_icmp_ge_f (q := 40) (tgt := 74) C dX8_root_37 (by decide) rfl (fun z => absurd ((nI_leI (a := 32) (b := c8) (by omega) (by omega)).mp z) (by omega)) ?_
            refine r_aload_n (q := 41) C 3 dX8_root_40 rfl rfl ?_
            refine r_get (q := 44) (t := 0) C koX8 k0 22 (by decide) q722 rfl rfl dX8_root_41 rfl ?_
            refine r_bipush (q := 46) C (nI 32) dX8_root_44 (by decide) rfl ?_
            refine r_iload_n (q := 47) C 2 dX8_root_46 rfl rfl ?_
            refine r_imul (q := 48) C dX8_root_47 rfl ?_
            refine r_ti (show ((nI 32) * (nI (lfN rD dy i9)) : Int32) = nI (32 * (lfN rD dy i9)) from pk_mul 32 (lfN rD dy i9)) ?_
            refine r_iload (q := 50) C 0 dX8_root_48 rfl rfl ?_
            refine r_iadd (q := 51) C dX8_root_50 rfl ?_
            refine r_ti (show ((nI (32 * (lfN rD dy i9))) + (nI c8) : Int32) = nI (32 * (lfN rD dy i9) + c8) from nI_add (32 * (lfN rD dy i9)) c8) ?_
            refine r_aload_n (q := 52) C 3 dX8_root_51 rfl rfl ?_
            refine r_get (q := 55) (t := 0) C koX8 k0 12 (by decide) q712 rfl rfl dX8_root_52 rfl ?_
            refine r_bipush (q := 57) C (nI 73) dX8_root_55 (by decide) rfl ?_
            refine r_iload (q := 59) C 1 dX8_root_57 rfl rfl ?_
            refine r_imul (q := 60) C dX8_root_59 rfl ?_
            refine r_ti (show ((nI 73) * (nI i9) : Int32) = nI (73 * i9) from pk_mul 73 i9) ?_
            refine r_bipush (q := 62) C (nI 41) dX8_root_60 (by decide) rfl ?_
            refine r_iadd (q := 63) C dX8_root_62 rfl ?_
            refine r_ti (show ((nI (73 * i9)) + (nI 41) : Int32) = nI (73 * i9 + 41) from nI_add (73 * i9) 41) ?_
            refine r_iload (q := 65) C 0 dX8_root_63 rfl rfl ?_
            refine r_iadd (q := 66) C dX8_root_65 rfl ?_
            refine r_ti (show ((nI (73 * i9 + 41)) + (nI c8) : Int32) = nI (73 * i9 + 41 + c8) from nI_add (73 * i9 + 41) c8) ?_
            refine r_bald (q := 67) (t := 9) C ((gf2 9 (by decide) (by decide)).trans h9) (73 * i9 + 41 + c8) rfl (by omega) (by decide) dX8_root_66 rfl ?_
            refine r_bast (q := 68) (t := 16) (w' := wd_set w2 16 (ad 16) (aB g 6400 (upd (clF lv1 (32 * lfN rD dy i9) c8 (fun j => by9 (73 * i9 + (41 + j)))) (32 * (lfN rD dy i9) + c8) (by9 (73 * i9 + 41 + c8)).toInt8.toInt32))) C k16 (32 * (lfN rD dy i9) + c8) rfl (by omega) (by decide) dX8_root_67 rfl rfl ?_
            refine r_iinc (q := 71) (v := nI (c8 + 1)) (lv' := [(5, .int (nI (c8 + 1))), (4, .int (nI i9)), (3, .int (nI (lfN rD dy i9))), (0, .ref m0), (1, .int dy), (2, .int x)]) C 0 dX8_root_68 rfl (nI_1 c8) (by decide) rfl rfl ?_
            refine r_goto (tgt := 33) C dX8_root_71 (by decide) ?_
            refine r_sub (lv' := [(5, .int (nI (c8 + 1))), (4, .int (nI i9)), (3, .int (nI (lfN rD dy i9))), (0, .ref m0), (1, .int dy), (2, .int x)]) [0, 1, 2, 3, 4, 5] rfl ?_
            refine ih2 (c8 + 1) _ (by omega) ((wd_ne (by decide)).trans k0) ?_ (fun t a b => (wd_ne b).trans (gf2 t a b))
            rw [← clF_s (rs := (fun j => by9 (73 * i9 + (41 + j)))) (x := (by9 (73 * i9 + 41 + c8)).toInt8.toInt32) (by rw [fit_b (i8 _), Nat.add_assoc])]
            exact wd_eq
        exact loop2 32 0 w1 (by omega) g0 (by rw [clF_0]; exact g16) gf
  exact loop rN 0 lv _ (by omega) wd_eq ((wd_ne (by decide)).trans h16) (fun p h => absurd h (Nat.not_lt_zero p)) f0

set_option maxHeartbeats 4000000 in
set_option maxRecDepth 20000 in
theorem y_root_y {l : Launch} {g : cx_G} {w : wd_T} {c m0 tk gN rN tN : Nat} {fl : Int32} {fn wn : Nat → Nat} {gp by9 rD tD tV tT : Nat → Int32} (hM : MdAt g w m0 fl tk gN rN tN fn wn gp by9 rD tD tV tT) (hI : Iv9 c tk gN rN tN fn wn by9 tD tV tT) {dy : Int32} {i : Nat} (hi32 : i < 32) : Mt l g yX8_root cX8_root 6 (some .int) 4 0 0 w [.ref m0, .int dy, .int (nI i)] (fun v w' => v = some (.int (if lfN rD dy rN = 0 then -1 else rt9 (lfN rD dy rN) (lfN rD dy rN) (lfL by9 rD dy rN) i &&& nI 255)) ∧ MdAt g w' m0 (nI 0) tk gN rN tN fn wn gp by9 rD tD tV tT ∧ Fm w w') := by
  refine mt_of RX8 "root" rfl rfl (by decide) (Nat.le_of_ble_eq_true rfl) [(0, .ref m0), (1, .int dy), (2, .int (nI i))] rfl ?_
  intro k hkl C hin
  subst hkl
  obtain ⟨ad, rS, fS, lv, fo, h0, hks, h3, h4, h5, h6, h7, h8, h9, h10, hsc, h16, h17⟩ := id hM
  obtain ⟨i0, i1, i2, i3, i4, i5, i6, i7, i8, i9, i10⟩ := id hI
  refine r_aload_n (q := 1) C 0 dX8_root_0 rfl rfl ?_
  refine r_iconst (q := 2) C (nI 0) dX8_root_1 (by decide) rfl ?_
  refine r_put (q := 5) (t := 0) (w' := wd_set w 0 m0 (mo ad (nI tN) (nI tk) (nI (tk + gN)) (nI gN) (nI rN) (nI 0) rS fS)) C koX8 h0 15 (by decide) q715 rfl rfl rfl rfl (Nat.le_of_ble_eq_true rfl) dX8_root_2 rfl rfl ?_
  refine r_iconst (q := 6) C (nI 0) dX8_root_5 (by decide) rfl ?_
  refine r_istore_n (q := 7) (lv' := [(3, .int (nI 0)), (0, .ref m0), (1, .int dy), (2, .int (nI i))]) C dX8_root_6 (by decide) rfl rfl ?_
  refine r_iconst (q := 8) C (nI 0) dX8_root_7 (by decide) rfl ?_
  refine r_istore (q := 10) (lv' := [(4, .int (nI 0)), (3, .int (nI 0)), (0, .ref m0), (1, .int dy), (2, .int (nI i))]) C dX8_root_8 (by decide) rfl rfl ?_
  refine r_sub (lv' := [(4, .int (nI 0)), (3, .int (nI 0)), (0, .ref m0), (1, .int dy), (2, .int (nI i))]) [0, 1, 2, 3, 4] rfl ?_
  have f0 : ∀ t, t ≠ 0 → t ≠ 16 → (wd_set w 0 m0 (mo ad (nI tN) (nI tk) (nI (tk + gN)) (nI gN) (nI rN) (nI 0) rS fS)) t = w t := fun t a _ => wd_ne a
  have loop : ∀ (u7 i9 : Nat) (lv1 : Nat → Int32) (w1 : wd_T), i9 + u7 = rN → (w1 0 = some (m0, mo ad (nI tN) (nI tk) (nI (tk + gN)) (nI gN) (nI rN) (nI 0) rS fS)) → (w1 16 = some (ad 16, aB g 6400 lv1)) → (∀ p, p < 32 * lfN rD dy i9 → lv1 p = lfL by9 rD dy i9 p) → (∀ t, t ≠ 0 → t ≠ 16 → w1 t = w t) → V g k 6 w1 0 0 (kQ g k (fun v w' => v = some (.int (if lfN rD dy rN = 0 then -1 else rt9 (lfN rD dy rN) (lfN rD dy rN) (lfL by9 rD dy rN) i &&& nI 255)) ∧ MdAt g w' m0 (nI 0) tk gN rN tN fn wn gp by9 rD tD tV tT ∧ Fm w w') 0 0) 10 [(4, .int (nI i9)), (3, .int (nI (lfN rD dy i9))), (0, .ref m0), (1, .int dy), (2, .int (nI i))] [] := by
    intro u7
    induction u7 with
    | zero =>
      intro i9 lv1 w1 hi g0 g16 gL gf
      obtain rfl : rN = i9 := by omega
      refine r_iload (q := 12) C 0 dX8_root_10 rfl rfl ?_
      refine r_aload_n (q := 13) C 2 dX8_root_12 rfl rfl ?_
      refine r_get (q := 16) (t := 0) C koX8 g0 14 (by decide) q714 rfl rfl dX8_root_13 rfl ?_
      refine r_icmp_ge_t (tgt := 83) C dX8_root_16 (by decide) ((nI_leI (a := rN) (b := rN) (by omega) (by omega)).mpr (by omega)) ?_
      have hle := lfN_le (rD := rD) (dy := dy) rN
      refine r_iload_n (q := 84) C 1 dX8_root_83 rfl rfl ?_
      refine r_if_eq (q := 87) (tgt := 98) C dX8_root_84 (by decide) rfl (fun hc1 => ?_) (fun hc1 => ?_)
      · have hc1 : (lfN rD dy rN) = 0 := (nI_eq (a := (lfN rD dy rN)) (b := 0) (by omega) (by omega)).mp hc1
        refine r_iconst (q := 99) C ((-1)) dX8_root_98 (by decide) rfl ?_
        exact r_iret C rfl (by decide) (by decide) dX8_root_99 ⟨by rw [if_pos hc1], ⟨ad, _, _, _, _, g0, hks.kept (fun t _ _ => gf t (by omega) (by omega)), ((gf 3 (by decide) (by decide)).trans h3), ((gf 4 (by decide) (by decide)).trans h4), ((gf 5 (by decide) (by decide)).trans h5), ((gf 6 (by decide) (by decide)).trans h6), ((gf 7 (by decide) (by decide)).trans h7), ((gf 8 (by decide) (by decide)).trans h8), ((gf 9 (by decide) (by decide)).trans h9), ((gf 10 (by decide) (by decide)).trans h10), hsc.kept (fun t _ _ => gf t (by omega) (by omega)), g16, ((gf 17 (by decide) (by decide)).trans h17)⟩, fun t ht => gf t (by omega) (by omega)⟩
      · have hc1 : ¬ (lfN rD dy rN) = 0 := fun z => hc1 ((nI_eq (a := (lfN rD dy rN)) (b := 0) (by omega) (by omega)).mpr z)
        refine r_iload_n (q := 88) C 4 dX8_root_87 rfl rfl ?_
        refine r_i2l (q := 89) C dX8_root_88 rfl ?_
        refine r_tl (show ((nI i).toInt64 : Int64) = lN i from nI_l (by omega)) ?_
        refine r_ldc2 (q := 92) (v := lN 31) C dX8_root_89 q918 rfl ?_
        refine r_callS (q := 95) (As := [.long (lN i), .long (lN 31)]) (st := []) C (m_in_y (n := i) (b := 31) (by omega) (by decide)) q787 q785 q786 q9 ⟨by decide, by decide⟩ (show (parseMethodDescriptor yX8_isIn.desc).map (fun d => d.parameters.length) = some 2 by decide +kernel) (by decide) (by decide) (by decide) (by decide) (Nat.le_of_ble_eq_true rfl) rfl dX8_root_92 rfl ?_
        rintro v9 w4 ⟨rfl, rfl⟩
        show V g k 6 w1 0 0 (kQ g k (fun v w' => v = some (.int (if lfN rD dy rN = 0 then -1 else rt9 (lfN rD dy rN) (lfN rD dy rN) (lfL by9 rD dy rN) i &&& nI 255)) ∧ MdAt g w' m0 (nI 0) tk gN rN tN fn wn gp by9 rD tD tV tT ∧ Fm w w') 0 0) 95 [(4, .int (nI rN)), (3, .int (nI (lfN rD dy rN))), (0, .ref m0), (1, .int dy), (2, .int (nI i))] [.int (nI 1)]
        refine r_if_ne_t (tgt := 100) C dX8_root_95 (by decide) (by decide) ?_
        refine r_sub (lv' := [(3, .int (nI (lfN rD dy rN))), (0, .ref m0), (1, .int dy), (2, .int (nI i))]) [1, 2, 3, 4] rfl ?_
        rw [if_neg hc1]
        obtain ⟨n0, hn0⟩ : ∃ n0, n0 = lfN rD dy rN := ⟨_, rfl⟩
        rw [← hn0] at hc1 hle gL ⊢
        obtain ⟨A9, hA9⟩ : ∃ A9, A9 = rt9 n0 n0 (lfL by9 rD dy rN) i := ⟨_, rfl⟩
        rw [← hA9]
        have loop3 : ∀ (u6 m9 : Nat) (r9 : Int32) (L9 lv3 : Nat → Int32) (w3 : wd_T), (1 ≤ m9 ∧ m9 ≤ u6 + 1 ∧ m9 ≤ 199) → (w3 0 = some (m0, mo ad (nI tN) (nI tk) (nI (tk + gN)) (nI gN) (nI rN) (nI 0) r9 fS)) → (w3 16 = some (ad 16, aB g 6400 lv3)) → (rt9 u6 m9 L9 i = A9) → (∀ p, p < 32 * m9 → lv3 p = L9 p) → (ft9 L9) → (ScAt g w3 ad) → (∀ t, t ≠ 0 → (t < 11 ∨ 17 ≤ t) → w3 t = w t) → V g k 6 w3 0 0 (kQ g k (fun v w' => v = some (.int (A9 &&& nI 255)) ∧ MdAt g w' m0 (nI 0) tk gN rN tN fn wn gp by9 rD tD tV tT ∧ Fm w w') 0 0) 100 [(3, .int (nI m9)), (0, .ref m0), (1, .int dy), (2, .int (nI i))] [] := by
          intro u6
          induction u6 with
          | zero =>
            intro m9 r9 L9 lv3 w3 hi z0 z16 ha zL zF zsc gf3
            refine r_iload_n (q := 101) C 0 dX8_root_100 rfl rfl ?_
            refine r_iconst (q := 102) C (nI 1) dX8_root_101 (by decide) rfl ?_
            refine r_icmp_le_t (tgt := 153) C dX8_root_102 (by decide) ((nI_leI (a := m9) (b := 1) (by omega) (by omega)).mpr (by omega)) ?_
            refine r_aload_n (q := 154) C 1 dX8_root_153 rfl rfl ?_
            refine r_get (q := 157) (t := 0) C koX8 z0 22 (by decide) q722 rfl rfl dX8_root_154 rfl ?_
            refine r_iload_n (q := 158) C 3 dX8_root_157 rfl rfl ?_
            refine r_bald (q := 159) (t := 16) C z16 i rfl (by omega) (by decide) dX8_root_158 rfl ?_
            refine r_sipush (q := 162) C (nI 255) dX8_root_159 (by decide) rfl ?_
            refine r_iand (q := 163) C dX8_root_162 rfl ?_
            exact r_iret C rfl (by decide) (by decide) dX8_root_163 ⟨by rw [zL i (by omega), ← ha, rt9_1 (by omega)], ⟨ad, _, _, _, _, z0, hks.kept (fun t _ _ => gf3 t (by omega) (by omega)), ((gf3 3 (by decide) (by decide)).trans h3), ((gf3 4 (by decide) (by decide)).trans h4), ((gf3 5 (by decide) (by decide)).trans h5), ((gf3 6 (by decide) (by decide)).trans h6), ((gf3 7 (by decide) (by decide)).trans h7), ((gf3 8 (by decide) (by decide)).trans h8), ((gf3 9 (by decide) (by decide)).trans h9), ((gf3 10 (by decide) (by decide)).trans h10), zsc, z16, ((gf3 17 (by decide) (by decide)).trans h17)⟩, fun t ht => gf3 t (by omega) (by omega)⟩
          | succ u6 ih =>
            intro m9 r9 L9 lv3 w3 hi z0 z16 ha zL zF zsc gf3
            refine r_iload_n (q := 101) C 0 dX8_root_100 rfl rfl ?_
            refine r_iconst (q := 102) C (nI 1) dX8_root_101 (by decide) rfl ?_
            refine r_icmp_le (q := 105) (tgt := 153) C dX8_root_102 (by decide) rfl (fun hc6 => ?_) (fun hc6 => ?_)
            · have hc6 : m9 ≤ 1 := (nI_leI (a := m9) (b := 1) (by omega) (by omega)).mp hc6
              refine r_aload_n (q := 154) C 1 dX8_root_153 rfl rfl ?_
              refine r_get (q := 157) (t := 0) C koX8 z0 22 (by decide) q722 rfl rfl dX8_root_154 rfl ?_
              refine r_iload_n (q := 158) C 3 dX8_root_157 rfl rfl ?_
              refine r_bald (q := 159) (t := 16) C z16 i rfl (by omega) (by decide) dX8_root_158 rfl ?_
              refine r_sipush (q := 162) C (nI 255) dX8_root_159 (by decide) rfl ?_
              refine r_iand (q := 163) C dX8_root_162 rfl ?_
              exact r_iret C rfl (by decide) (by decide) dX8_root_163 ⟨by rw [zL i (by omega), ← ha, rt9_1 (by omega)], ⟨ad, _, _, _, _, z0, hks.kept (fun t _ _ => gf3 t (by omega) (by omega)), ((gf3 3 (by decide) (by decide)).trans h3), ((gf3 4 (by decide) (by decide)).trans h4), ((gf3 5 (by decide) (by decide)).trans h5), ((gf3 6 (by decide) (by decide)).trans h6), ((gf3 7 (by decide) (by decide)).trans h7), ((gf3 8 (by decide) (by decide)).trans h8), ((gf3 9 (by decide) (by decide)).trans h9), ((gf3 10 (by decide) (by decide)).trans h10), zsc, z16, ((gf3 17 (by decide) (by decide)).trans h17)⟩, fun t ht => gf3 t (by omega) (by omega)⟩
            · have hc6 : ¬ m9 ≤ 1 := fun z => hc6 ((nI_leI (a := m9) (b := 1) (by omega) (by omega)).mpr z)
              refine r_iconst (q := 106) C (nI 0) dX8_root_105 (by decide) rfl ?_
              refine r_istore (q := 108) (lv' := [(4, .int (nI 0)), (3, .int (nI m9)), (0, .ref m0), (1, .int dy), (2, .int (nI i))]) C dX8_root_106 (by decide) rfl rfl ?_
              refine r_iconst (q := 109) C (nI 0) dX8_root_108 (by decide) rfl ?_
              refine r_istore (q := 111) (lv' := [(5, .int (nI 0)), (4, .int (nI 0)), (3, .int (nI m9)), (0, .ref m0), (1, .int dy), (2, .int (nI i))]) C dX8_root_109 (by decide) rfl rfl ?_
              refine r_sub (lv' := [(5, .int (nI 0)), (4, .int (nI 0)), (3, .int (nI m9)), (0, .ref m0), (1, .int dy), (2, .int (nI i))]) [0, 1, 2, 3, 4, 5] rfl ?_
              have loop4 : ∀ (u8 e9 : Nat) (r9 : Int32) (lv4 : Nat → Int32) (w4 : wd_T), e9 + u8 = (m9 + 1) / 2 → (w4 0 = some (m0, mo ad (nI tN) (nI tk) (nI (tk + gN)) (nI gN) (nI rN) (nI 0) r9 fS)) → (w4 16 = some (ad 16, aB g 6400 lv4)) → (∀ p, p < 32 * e9 → lv4 p = nx9 m9 L9 p) → (∀ p, 64 * e9 ≤ p → p < 32 * m9 → lv4 p = L9 p) → (ScAt g w4 ad) → (∀ t, t ≠ 0 → (t < 11 ∨ 17 ≤ t) → w4 t = w t) → V g k 6 w4 0 0 (kQ g k (fun v w' => v = some (.int (A9 &&& nI 255)) ∧ MdAt g w' m0 (nI 0) tk gN rN tN fn wn gp by9 rD tD tV tT ∧ Fm w w') 0 0) 111 [(5, .int (nI (2 * e9))), (4, .int (nI e9)), (3, .int (nI m9)), (0, .ref m0), (1, .int dy), (2, .int (nI i))] [] := by
                intro u8
                induction u8 with
                | zero =>
                  intro e9 r9 lv4 w4 hi y0 y16 yL yU ysc gf4
                  obtain rfl : (m9 + 1) / 2 = e9 := by omega
                  refine r_iload (q := 113) C 0 dX8_root_111 rfl rfl ?_
                  refine r_iload_n (q := 114) C 2 dX8_root_113 rfl rfl ?_
                  refine r_icmp_ge_t (tgt := 147) C dX8_root_114 (by decide) ((nI_leI (a := m9) (b := (2 * ((m9 + 1) / 2))) (by omega) (by omega)).mpr (by omega)) ?_
                  refine r_iload (q := 149) C 1 dX8_root_147 rfl rfl ?_
                  refine r_istore_n (q := 150) (lv' := [(3, .int (nI ((m9 + 1) / 2))), (5, .int (nI (2 * ((m9 + 1) / 2)))), (4, .int (nI ((m9 + 1) / 2))), (0, .ref m0), (1, .int dy), (2, .int (nI i))]) C dX8_root_149 (by decide) rfl rfl ?_
                  refine r_goto (tgt := 100) C dX8_root_150 (by decide) ?_
                  refine r_sub (lv' := [(3, .int (nI ((m9 + 1) / 2))), (0, .ref m0), (1, .int dy), (2, .int (nI i))]) [0, 3, 4, 5] rfl ?_
                  exact ih ((m9 + 1) / 2) r9 _ lv4 w4 (by omega) y0 y16 (by rw [← ha, rt9_2 (by omega)]) yL (nx9_ft zF) ysc gf4
                | succ u8 ih4 =>
                  intro e9 r9 lv4 w4 hi y0 y16 yL yU ysc gf4
                  refine r_iload (q := 113) C 0 dX8_root_111 rfl rfl ?_
                  refine r_iload_n (q := 114) C 2 dX8_root_113 rfl rfl ?_
                  refine r_icmp_ge_f (q := 117) (tgt := 147) C dX8_root_114 (by decide) rfl (fun z => absurd ((nI_leI (a := m9) (b := (2 * e9)) (by omega) (by omega)).mp z) (by omega)) ?_
                  refine r_aload_n (q := 118) C 3 dX8_root_117 rfl rfl ?_
                  refine r_iload (q := 120) C 0 dX8_root_118 rfl rfl ?_
                  refine r_iload (q := 122) C 1 dX8_root_120 rfl rfl ?_
                  refine r_iload (q := 124) C 0 dX8_root_122 rfl rfl ?_
                  refine r_iconst (q := 125) C (nI 1) dX8_root_124 (by decide) rfl ?_
                  refine r_iadd (q := 126) C dX8_root_125 rfl ?_
                  refine r_ti (show ((nI (2 * e9)) + (nI 1) : Int32) = nI (2 * e9 + 1) from nI_add (2 * e9) 1) ?_
                  refine r_iload_n (q := 127) C 2 dX8_root_126 rfl rfl ?_
                  refine r_icmp_ge (q := 130) (tgt := 134) C dX8_root_127 (by decide) rfl (fun hc10 => ?_) (fun hc10 => ?_)
                  · have hc10 : m9 ≤ (2 * e9 + 1) := (nI_leI (a := m9) (b := (2 * e9 + 1)) (by omega) (by omega)).mp hc10
                    skip
                    refine r_iconst (q := 135) C (nI 0) dX8_root_134 (by decide) rfl ?_
                    refine r_ti (show (nI 0 : Int32) = nI 0 from rfl) ?_
                    refine r_callV (q := 138) (t := 0) (As := [.int (nI (2 * e9)), .int (nI e9), .int (nI 0)]) (st := []) C koX8 y0 (m_pair_n (p9 := 2 * e9) (b9 := e9) (lv := lv4) y0 y16 (by omega) (by omega) (fun j hj => by rw [yU _ (by omega) (by omega)]; exact zF _)) q930 q927 q929 qp30 q9 rfl ⟨by decide, by decide⟩ (show (parseMethodDescriptor yX8_pair.desc).map (fun d => d.parameters.length) = some 3 by decide +kernel) (by decide) (by decide) (by decide) (by decide) (Nat.le_of_ble_eq_true rfl) rfl dX8_root_135 rfl ?_
                    rintro v9 w5 ⟨rfl, x16, xf⟩
                    have x0 := (xf 0 (by decide)).trans y0
                    have xsc := ysc.kept (fun t _ _ => xf t (by omega))
                    show V g k 6 w5 0 0 (kQ g k (fun v w' => v = some (.int (A9 &&& nI 255)) ∧ MdAt g w' m0 (nI 0) tk gN rN tN fn wn gp by9 rD tD tV tT ∧ Fm w w') 0 0) 138 [(5, .int (nI (2 * e9))), (4, .int (nI e9)), (3, .int (nI m9)), (0, .ref m0), (1, .int dy), (2, .int (nI i))] []
                    refine r_iinc (q := 141) (v := nI (e9 + 1)) (lv' := [(4, .int (nI (e9 + 1))), (5, .int (nI (2 * e9))), (3, .int (nI m9)), (0, .ref m0), (1, .int dy), (2, .int (nI i))]) C 1 dX8_root_138 rfl (nI_1 e9) (by decide) rfl rfl ?_
                    refine r_iinc (q := 144) (v := nI (2 * e9 + 2)) (lv' := [(5, .int (nI (2 * e9 + 2))), (4, .int (nI (e9 + 1))), (3, .int (nI m9)), (0, .ref m0), (1, .int dy), (2, .int (nI i))]) C 1 dX8_root_141 rfl (nI_add (2 * e9) 2) (by decide) rfl rfl ?_
                    refine r_goto (tgt := 111) C dX8_root_144 (by decide) ?_
                    refine r_sub (lv' := [(5, .int (nI (2 * e9 + 2))), (4, .int (nI (e9 + 1))), (3, .int (nI m9)), (0, .ref m0), (1, .int dy), (2, .int (nI i))]) [0, 1, 2, 3, 4, 5] rfl ?_
                    rw [show 2 * e9 + 2 = 2 * (e9 + 1) by omega]
                    exact ih4 (e9 + 1) _ _ w5 (by omega) x0 x16 (nx9_b (by omega) (by omega) yL yU) (fun p a b => by rw [clF_out (by omega)]; exact yU p (by omega) b) xsc (fun t a b => (xf t (by omega)).trans (gf4 t a b))
                  · have hc10 : ¬ m9 ≤ (2 * e9 + 1) := fun z => hc10 ((nI_leI (a := m9) (b := (2 * e9 + 1)) (by omega) (by omega)).mpr z)
                    skip
                    refine r_iconst (q := 131) C (nI 1) dX8_root_130 (by decide) rfl ?_
                    refine r_goto (tgt := 135) C dX8_root_131 (by decide) ?_
                    refine r_ti (show (nI 1 : Int32) = nI 1 from rfl) ?_
                    refine r_callV (q := 138) (t := 0) (As := [.int (nI (2 * e9)), .int (nI e9), .int (nI 1)]) (st := []) C koX8 y0 (m_pair_y (p9 := 2 * e9) (b9 := e9) (lv := lv4) (hks.kept (fun t _ _ => gf4 t (by omega) (by omega))) ysc y0 y16 (by omega) (by omega)) q930 q927 q929 qp30 q9 rfl ⟨by decide, by decide⟩ (show (parseMethodDescriptor yX8_pair.desc).map (fun d => d.parameters.length) = some 3 by decide +kernel) (by decide) (by decide) (by decide) (by decide) (Nat.le_of_ble_eq_true rfl) rfl dX8_root_135 rfl ?_
                    rintro v9 w5 ⟨rfl, x16, xsc, x0, xf⟩
                    show V g k 6 w5 0 0 (kQ g k (fun v w' => v = some (.int (A9 &&& nI 255)) ∧ MdAt g w' m0 (nI 0) tk gN rN tN fn wn gp by9 rD tD tV tT ∧ Fm w w') 0 0) 138 [(5, .int (nI (2 * e9))), (4, .int (nI e9)), (3, .int (nI m9)), (0, .ref m0), (1, .int dy), (2, .int (nI i))] []
                    refine r_iinc (q := 141) (v := nI (e9 + 1)) (lv' := [(4, .int (nI (e9 + 1))), (5, .int (nI (2 * e9))), (3, .int (nI m9)), (0, .ref m0), (1, .int dy), (2, .int (nI i))]) C 1 dX8_root_138 rfl (nI_1 e9) (by decide) rfl rfl ?_
                    refine r_iinc (q := 144) (v := nI (2 * e9 + 2)) (lv' := [(5, .int (nI (2 * e9 + 2))), (4, .int (nI (e9 + 1))), (3, .int (nI m9)), (0, .ref m0), (1, .int dy), (2, .int (nI i))]) C 1 dX8_root_141 rfl (nI_add (2 * e9) 2) (by decide) rfl rfl ?_
                    refine r_goto (tgt := 111) C dX8_root_144 (by decide) ?_
                    refine r_sub (lv' := [(5, .int (nI (2 * e9 + 2))), (4, .int (nI (e9 + 1))), (3, .int (nI m9)), (0, .ref m0), (1, .int dy), (2, .int (nI i))]) [0, 1, 2, 3, 4, 5] rfl ?_
                    rw [show 2 * e9 + 2 = 2 * (e9 + 1) by omega]
                    exact ih4 (e9 + 1) _ _ w5 (by omega) x0 x16 (nx9_a (by omega) yL yU) (fun p a b => by rw [clF_out (by omega)]; exact yU p (by omega) b) xsc (fun t a b => (xf t a b).trans (gf4 t a b))
              exact loop4 ((m9 + 1) / 2) 0 r9 lv3 w3 (by omega) z0 z16 (fun p h => absurd h (Nat.not_lt_zero p)) (fun p _ b => zL p b) zsc gf3
        exact loop3 n0 n0 _ _ lv1 w1 (by omega) g0 g16 hA9.symm gL (lfL_ft i8 rN) (hsc.kept (fun t _ _ => gf t (by omega) (by omega))) (fun t a b => gf t a (by omega))
    | succ u7 ih =>
      intro i9 lv1 w1 hi g0 g16 gL gf
      have hle := lfN_le (rD := rD) (dy := dy) i9
      refine r_iload (q := 12) C 0 dX8_root_10 rfl rfl ?_
      refine r_aload_n (q := 13) C 2 dX8_root_12 rfl rfl ?_
      refine r_get (q := 16) (t := 0) C koX8 g0 14 (by decide) q714 rfl rfl dX8_root_13 rfl ?_
      refine r_icmp_ge_f (q := 19) (tgt := 83) C dX8_root_16 (by decide) rfl (fun z => absurd ((nI_leI (a := rN) (b := i9) (by omega) (by omega)).mp z) (by omega)) ?_
      refine r_aload_n (q := 20) C 2 dX8_root_19 rfl rfl ?_
      refine r_get (q := 23) (t := 0) C koX8 g0 13 (by decide) q713 rfl rfl dX8_root_20 rfl ?_
      refine r_iload (q := 25) C 0 dX8_root_23 rfl rfl ?_
      refine r_iald (q := 26) (t := 10) C ((gf 10 (by decide) (by decide)).trans h10) i9 rfl (by omega) (by decide) dX8_root_25 rfl ?_
      refine r_iload_n (q := 27) C 3 dX8_root_26 rfl rfl ?_
      refine r_icmp_ne (q := 30) (tgt := 77) C dX8_root_27 (by decide) rfl (fun hc16 => ?_) (fun hc16 => ?_)
      · refine r_iinc (q := 80) (v := nI (i9 + 1)) (lv' := [(4, .int (nI (i9 + 1))), (3, .int (nI (lfN rD dy i9))), (0, .ref m0), (1, .int dy), (2, .int (nI i))]) C 0 dX8_root_77 rfl (nI_1 i9) (by decide) rfl rfl ?_
        refine r_goto (tgt := 10) C dX8_root_80 (by decide) ?_
        refine r_sub (lv' := [(4, .int (nI (i9 + 1))), (3, .int (nI (lfN rD dy i9))), (0, .ref m0), (1, .int dy), (2, .int (nI i))]) [0, 1, 2, 3, 4] rfl ?_
        rw [← lfN_n hc16]
        exact ih (i9 + 1) lv1 w1 (by omega) g0 g16 (by rw [lfN_n hc16, lfL_n hc16]; exact gL) gf
      · refine r_iconst (q := 31) C (nI 0) dX8_root_30 (by decide) rfl ?_
        refine r_istore (q := 33) (lv' := [(5, .int (nI 0)), (4, .int (nI i9)), (3, .int (nI (lfN rD dy i9))), (0, .ref m0), (1, .int dy), (2, .int (nI i))]) C dX8_root_31 (by decide) rfl rfl ?_
        refine r_sub (lv' := [(5, .int (nI 0)), (4, .int (nI i9)), (3, .int (nI (lfN rD dy i9))), (0, .ref m0), (1, .int dy), (2, .int (nI i))]) [0, 1, 2, 3, 4, 5] rfl ?_
        have loop2 : ∀ (u8 c8 : Nat)  (w2 : wd_T), c8 + u8 = 32 → (w2 0 = some (m0, mo ad (nI tN) (nI tk) (nI (tk + gN)) (nI gN) (nI rN) (nI 0) rS fS)) → (w2 16 = some (ad 16, aB g 6400 (clF lv1 (32 * lfN rD dy i9) c8 (fun j => by9 (73 * i9 + (41 + j)))))) → (∀ t, t ≠ 0 → t ≠ 16 → w2 t = w t) → V g k 6 w2 0 0 (kQ g k (fun v w' => v = some (.int (if lfN rD dy rN = 0 then -1 else rt9 (lfN rD dy rN) (lfN rD dy rN) (lfL by9 rD dy rN) i &&& nI 255)) ∧ MdAt g w' m0 (nI 0) tk gN rN tN fn wn gp by9 rD tD tV tT ∧ Fm w w') 0 0) 33 [(5, .int (nI c8)), (4, .int (nI i9)), (3, .int (nI (lfN rD dy i9))), (0, .ref m0), (1, .int dy), (2, .int (nI i))] [] := by
          intro u8
          induction u8 with
          | zero =>
            intro c8  w2 hi k0 k16 gf2
            obtain rfl : 32 = c8 := by omega
            refine r_iload (q := 35) C 0 dX8_root_33 rfl rfl ?_
            refine r_bipush (q := 37) C (nI 32) dX8_root_35 (by decide) rfl ?_
            refine r_icmp_ge_t (tgt := 74) C dX8_root_37 (by decide) ((nI_leI (a := 32) (b := 32) (by omega) (by omega)).mpr (by omega)) ?_
            refine r_iinc (q := 77) (v := nI (lfN rD dy i9 + 1)) (lv' := [(3, .int (nI (lfN rD dy i9 + 1))), (5, .int (nI 32)), (4, .int (nI i9)), (0, .ref m0), (1, .int dy), (2, .int (nI i))]) C 2 dX8_root_74 rfl (nI_1 (lfN rD dy i9)) (by decide) rfl rfl ?_
            refine r_iinc (q := 80) (v := nI (i9 + 1)) (lv' := [(4, .int (nI (i9 + 1))), (3, .int (nI (lfN rD dy i9 + 1))), (5, .int (nI 32)), (0, .ref m0), (1, .int dy), (2, .int (nI i))]) C 2 dX8_root_77 rfl (nI_1 i9) (by decide) rfl rfl ?_
            refine r_goto (tgt := 10) C dX8_root_80 (by decide) ?_
            refine r_sub (lv' := [(4, .int (nI (i9 + 1))), (3, .int (nI (lfN rD dy i9 + 1))), (0, .ref m0), (1, .int dy), (2, .int (nI i))]) [0, 1, 3, 4, 5] rfl ?_
            rw [← lfN_y hc16]
            exact ih (i9 + 1) _ w2 (by omega) k0 k16 (lfL_cl hc16 gL) gf2
          | succ u8 ih2 =>
            intro c8  w2 hi k0 k16 gf2
            refine r_iload (q := 35) C 0 dX8_root_33 rfl rfl ?_
            refine r_bipush (q := 37) C (nI 32) dX8_root_35 (by decide) rfl ?_
            refine r_icmp_ge_f (q := 40) (tgt := 74) C dX8_root_37 (by decide) rfl (fun z => absurd ((nI_leI (a := 32) (b := c8) (by omega) (by omega)).mp z) (by omega)) ?_
            refine r_aload_n (q := 41) C 3 dX8_root_40 rfl rfl ?_
            refine r_get (q := 44) (t := 0) C koX8 k0 22 (by decide) q722 rfl rfl dX8_root_41 rfl ?_
            refine r_bipush (q := 46) C (nI 32) dX8_root_44 (by decide) rfl ?_
            refine r_iload_n (q := 47) C 2 dX8_root_46 rfl rfl ?_
            refine r_imul (q := 48) C dX8_root_47 rfl ?_
            refine r_ti (show ((nI 32) * (nI (lfN rD dy i9)) : Int32) = nI (32 * (lfN rD dy i9)) from pk_mul 32 (lfN rD dy i9)) ?_
            refine r_iload (q := 50) C 0 dX8_root_48 rfl rfl ?_
            refine r_iadd (q := 51) C dX8_root_50 rfl ?_
            refine r_ti (show ((nI (32 * (lfN rD dy i9))) + (nI c8) : Int32) = nI (32 * (lfN rD dy i9) + c8) from nI_add (32 * (lfN rD dy i9)) c8) ?_
            refine r_aload_n (q := 52) C 3 dX8_root_51 rfl rfl ?_
            refine r_get (q := 55) (t := 0) C koX8 k0 12 (by decide) q712 rfl rfl dX8_root_52 rfl ?_
            refine r_bipush (q := 57) C (nI 73) dX8_root_55 (by decide) rfl ?_
            refine r_iload (q := 59) C 1 dX8_root_57 rfl rfl ?_
            refine r_imul (q := 60) C dX8_root_59 rfl ?_
            refine r_ti (show ((nI 73) * (nI i9) : Int32) = nI (73 * i9) from pk_mul 73 i9) ?_
            refine r_bipush (q := 62) C (nI 41) dX8_root_60 (by decide) rfl ?_
            refine r_iadd (q := 63) C dX8_root_62 rfl ?_
            refine r_ti (show ((nI (73 * i9)) + (nI 41) : Int32) = nI (73 * i9 + 41) from nI_add (73 * i9) 41) ?_
            refine r_iload (q := 65) C 0 dX8_root_63 rfl rfl ?_
            refine r_iadd (q := 66) C dX8_root_65 rfl ?_
            refine r_ti (show ((nI (73 * i9 + 41)) + (nI c8) : Int32) = nI (73 * i9 + 41 + c8) from nI_add (73 * i9 + 41) c8) ?_
            refine r_bald (q := 67) (t := 9) C ((gf2 9 (by decide) (by decide)).trans h9) (73 * i9 + 41 + c8) rfl (by omega) (by decide) dX8_root_66 rfl ?_
            refine r_bast (q := 68) (t := 16) (w' := wd_set w2 16 (ad 16) (aB g 6400 (upd (clF lv1 (32 * lfN rD dy i9) c8 (fun j => by9 (73 * i9 + (41 + j)))) (32 * (lfN rD dy i9) + c8) (by9 (73 * i9 + 41 + c8)).toInt8.toInt32))) C k16 (32 * (lfN rD dy i9) + c8) rfl (by omega) (by decide) dX8_root_67 rfl rfl ?_
            refine r_iinc (q := 71) (v := nI (c8 + 1)) (lv' := [(5, .int (nI (c8 + 1))), (4, .int (nI i9)), (3, .int (nI (lfN rD dy i9))), (0, .ref m0), (1, .int dy), (2, .int (nI i))]) C 0 dX8_root_68 rfl (nI_1 c8) (by decide) rfl rfl ?_
            refine r_goto (tgt := 33) C dX8_root_71 (by decide) ?_
            refine r_sub (lv' := [(5, .int (nI (c8 + 1))), (4, .int (nI i9)), (3, .int (nI (lfN rD dy i9))), (0, .ref m0), (1, .int dy), (2, .int (nI i))]) [0, 1, 2, 3, 4, 5] rfl ?_
            refine ih2 (c8 + 1) _ (by omega) ((wd_ne (by decide)).trans k0) ?_ (fun t a b => (wd_ne b).trans (gf2 t a b))
            rw [← clF_s (rs := (fun j => by9 (73 * i9 + (41 + j)))) (x := (by9 (73 * i9 + 41 + c8)).toInt8.toInt32) (by rw [fit_b (i8 _), Nat.add_assoc])]
            exact wd_eq
        exact loop2 32 0 w1 (by omega) g0 (by rw [clF_0]; exact g16) gf
  exact loop rN 0 lv _ (by omega) wd_eq ((wd_ne (by decide)).trans h16) (fun p h => absurd h (Nat.not_lt_zero p)) f0
