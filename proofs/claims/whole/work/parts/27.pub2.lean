/-! TicketChain: share, print, poke, digest, check, root, follows -/
theorem c_fits_ok {l : Launch} {g : cx_G} {w : wd_T} {x : Int32} {v : Int64} (h : ok9 x v) : Mt l g yX7_fits cX7_fits 3 (some .boolean) 1 0 0 w [.int x, .long v] (fun v9 w' => v9 = some (.int (nI 1)) ∧ w = w') := by
  obtain ⟨f, n, rfl, hf, hn, rfl⟩ := h
  exact c_fits_y hf hn
set_option maxHeartbeats 4000000 in
set_option maxRecDepth 20000 in
theorem x_shr_y {l : Launch} {g : cx_G} {w : wd_T} {c a0 tk gN rN tN : Nat} {fn wn : Nat → Nat} {gp by9 rD tD tV tT : Nat → Int32} (hT : TcAt g w a0 tk gN rN tN fn wn gp by9 rD tD tV tT) (hI : Iv9 c tk gN rN tN fn wn by9 tD tV tT) {k9 : Nat} (hk9 : k9 < tk) {i : Nat} (hi : i < 8) : Mt l g yX7_share cX7_share 4 (some .long) 5 0 0 w [.ref a0, .int (nI k9), .int (nI i)] (fun v w' => v = some (.long (shr9 fn wn k9 i)) ∧ TcAt g w' a0 tk gN rN tN fn wn gp by9 rD tD tV tT ∧ Fl w w') := by
  refine mt_of RX7 "share" rfl rfl (by decide) (Nat.le_of_ble_eq_true rfl) [(0, .ref a0), (1, .int (nI k9)), (2, .int (nI i))] rfl ?_
  intro k hkl C hin
  subst hkl
  have hTk := hT
  obtain ⟨a1, alb, alk, asp, a3, alr, asu, alv, af, asg, elb, elk, er, ab, gp9, T, t0, t1, t2, t3, t4, t5, t6, t7, t8⟩ := hTk
  obtain ⟨i0, i1, i2, i3, i4, i5, i6, i7, i8, i9, i10⟩ := id hI
  obtain ⟨atf, atw, ff, fw, o0, o1, o2, o3, o4⟩ := t5 k9 hk9
  refine r_aload_n (q := 1) C 0 dX7_share_0 rfl rfl ?_
  refine r_iload_n (q := 2) C 1 dX7_share_1 rfl rfl ?_
  refine r_callV (q := 5) (t := 100) (As := [.int (nI k9)]) (st := []) C koX7 t0 (c_findT_y t0 t4 (by omega) hk9 o0) q408 q405 q407 qp10 q1 rfl ⟨by decide, by decide⟩ (show (parseMethodDescriptor yX7_find.desc).map (fun d => d.parameters.length) = some 1 by decide +kernel) (by decide) (by decide) (by decide) (by decide) (Nat.le_of_ble_eq_true rfl) rfl dX7_share_2 rfl ?_
  rintro v9 w1 ⟨rfl, rfl⟩
  show V g k 4 w 0 0 (kQ g k (fun v w' => v = some (.long (shr9 fn wn k9 i)) ∧ TcAt g w' a0 tk gN rN tN fn wn gp by9 rD tD tV tT ∧ Fl w w') 0 0) 5 [(0, .ref a0), (1, .int (nI k9)), (2, .int (nI i))] [.ref (elk k9)]
  refine r_astore_n (q := 6) (lv' := [(3, .ref (elk k9)), (0, .ref a0), (1, .int (nI k9)), (2, .int (nI i))]) C dX7_share_5 (by decide) rfl rfl ?_
  refine r_aload_n (q := 7) C 0 dX7_share_6 rfl rfl ?_
  refine r_ifnonnull (tgt := 16) C dX7_share_7 (by decide) ?_
  refine r_aload_n (q := 17) C 0 dX7_share_16 rfl rfl ?_
  refine r_iload_n (q := 18) C 3 dX7_share_17 rfl rfl ?_
  have eT : tlS fw 8 = tlS (cw9 wn k9) 8 := tlS_congr 8 (fun j hj => o4 j hj)
  have e8 : ff 8 = lN (fn (9 * k9 + 8)) := o3 8 (by decide)
  have b8 := i4 k9 hk9 8 (by decide)
  have m8 : fmx9 8 = 99 := rfl
  by_cases ht : lN 0 < tlS fw 8
  · by_cases hz : fn (9 * k9 + 8) = 0
    · refine r_callV (q := 21) (t := (1000 + 3 * k9)) (As := [.int (nI i)]) (st := []) C koX6 o0 (c_shr_y o0 o1 o2 hi ht (by rw [e8, hz])) q474 q471 q472 q473 q17 rfl ⟨by decide, by decide⟩ (show (parseMethodDescriptor yX6_shareOf.desc).map (fun d => d.parameters.length) = some 1 by decide +kernel) (by decide) (by decide) (by decide) (by decide) (Nat.le_of_ble_eq_true rfl) rfl dX7_share_18 rfl ?_
      rintro v9 w2 ⟨rfl, rfl⟩
      show V g k 4 w 0 0 (kQ g k (fun v w' => v = some (.long (shr9 fn wn k9 i)) ∧ TcAt g w' a0 tk gN rN tN fn wn gp by9 rD tD tV tT ∧ Fl w w') 0 0) 21 [(3, .ref (elk k9)), (0, .ref a0), (1, .int (nI k9)), (2, .int (nI i))] [.long (shA (ff 5) (tlS fw 8) fw i)]
      exact r_lret C rfl (by decide) (by decide) dX7_share_21 ⟨by unfold shr9; rw [if_pos (eT ▸ ht), if_pos hz, ← eT, o3 5 (by decide), shA_congr hi (fun j hj => (o4 j hj : fw j = cw9 wn k9 j))]; rfl, hT, Fl.rfl'⟩
    · refine r_callV (q := 21) (t := (1000 + 3 * k9)) (As := [.int (nI i)]) (st := []) C koX6 o0 (c_shr_v o0 o1 o2 hi ht (fun z => hz ((pk_lEQ (a := fn (9 * k9 + 8)) (b := 0) (by omega) (by omega)).mp (e8.symm.trans z)))) q474 q471 q472 q473 q17 rfl ⟨by decide, by decide⟩ (show (parseMethodDescriptor yX6_shareOf.desc).map (fun d => d.parameters.length) = some 1 by decide +kernel) (by decide) (by decide) (by decide) (by decide) (Nat.le_of_ble_eq_true rfl) rfl dX7_share_18 rfl ?_
      rintro v9 w3 ⟨rfl, rfl⟩
      show V g k 4 w 0 0 (kQ g k (fun v w' => v = some (.long (shr9 fn wn k9 i)) ∧ TcAt g w' a0 tk gN rN tN fn wn gp by9 rD tD tV tT ∧ Fl w w') 0 0) 21 [(3, .ref (elk k9)), (0, .ref a0), (1, .int (nI k9)), (2, .int (nI i))] [.long (shA (lN 0) (tlS fw 8) fw i)]
      exact r_lret C rfl (by decide) (by decide) dX7_share_21 ⟨by unfold shr9; rw [if_pos (eT ▸ ht), if_neg hz, ← eT, shA_congr hi (fun j hj => (o4 j hj : fw j = cw9 wn k9 j))]; rfl, hT, Fl.rfl'⟩
  · refine r_callV (q := 21) (t := (1000 + 3 * k9)) (As := [.int (nI i)]) (st := []) C koX6 o0 (c_shr_0 o0 o1 o2 hi ht) q474 q471 q472 q473 q17 rfl ⟨by decide, by decide⟩ (show (parseMethodDescriptor yX6_shareOf.desc).map (fun d => d.parameters.length) = some 1 by decide +kernel) (by decide) (by decide) (by decide) (by decide) (Nat.le_of_ble_eq_true rfl) rfl dX7_share_18 rfl ?_
    rintro v9 w4 ⟨rfl, rfl⟩
    show V g k 4 w 0 0 (kQ g k (fun v w' => v = some (.long (shr9 fn wn k9 i)) ∧ TcAt g w' a0 tk gN rN tN fn wn gp by9 rD tD tV tT ∧ Fl w w') 0 0) 21 [(3, .ref (elk k9)), (0, .ref a0), (1, .int (nI k9)), (2, .int (nI i))] [.long (-1)]
    exact r_lret C rfl (by decide) (by decide) dX7_share_21 ⟨by unfold shr9; rw [if_neg (eT ▸ ht)], hT, Fl.rfl'⟩

set_option maxHeartbeats 4000000 in
set_option maxRecDepth 20000 in
theorem x_prt_n {l : Launch} {g : cx_G} {w : wd_T} {c a0 tk gN rN tN : Nat} {fn wn : Nat → Nat} {gp by9 rD tD tV tT : Nat → Int32} (hT : TcAt g w a0 tk gN rN tN fn wn gp by9 rD tD tV tT) (hI : Iv9 c tk gN rN tN fn wn by9 tD tV tT) {x : Int32} (hx : x < 0 ∨ nI tk ≤ x) {y : Int32} : Mt l g yX7_print cX7_print 4 (some .int) 5 0 0 w [.ref a0, .int x, .int y] (fun v w' => v = some (.int (-1)) ∧ TcAt g w' a0 tk gN rN tN fn wn gp by9 rD tD tV tT ∧ Fl w w') := by
  refine mt_of RX7 "print" rfl rfl (by decide) (Nat.le_of_ble_eq_true rfl) [(0, .ref a0), (1, .int x), (2, .int y)] rfl ?_
  intro k hkl C hin
  subst hkl
  have hTk := hT
  obtain ⟨a1, alb, alk, asp, a3, alr, asu, alv, af, asg, elb, elk, er, ab, gp9, T, t0, t1, t2, t3, t4, t5, t6, t7, t8⟩ := hTk
  obtain ⟨i0, i1, i2, i3, i4, i5, i6, i7, i8, i9, i10⟩ := id hI
  refine r_aload_n (q := 1) C 0 dX7_print_0 rfl rfl ?_
  refine r_iload_n (q := 2) C 1 dX7_print_1 rfl rfl ?_
  refine r_callV (q := 5) (t := 100) (As := [.int x]) (st := []) C koX7 t0 (c_findT_n t0 t4 (by omega) hx) q408 q405 q407 qp10 q1 rfl ⟨by decide, by decide⟩ (show (parseMethodDescriptor yX7_find.desc).map (fun d => d.parameters.length) = some 1 by decide +kernel) (by decide) (by decide) (by decide) (by decide) (Nat.le_of_ble_eq_true rfl) rfl dX7_print_2 rfl ?_
  rintro v9 w1 ⟨rfl, rfl⟩
  show V g k 4 w 0 0 (kQ g k (fun v w' => v = some (.int (-1)) ∧ TcAt g w' a0 tk gN rN tN fn wn gp by9 rD tD tV tT ∧ Fl w w') 0 0) 5 [(0, .ref a0), (1, .int x), (2, .int y)] [.null]
  refine r_astore_nN (q := 6) (lv' := [(3, .null), (0, .ref a0), (1, .int x), (2, .int y)]) C dX7_print_5 (by decide) rfl rfl ?_
  refine r_aload_nN (q := 7) C 0 dX7_print_6 rfl rfl ?_
  refine r_ifnonnullN (q := 10) C dX7_print_7 rfl ?_
  refine r_iconst (q := 11) C ((-1)) dX7_print_10 (by decide) rfl ?_
  exact r_iret C rfl (by decide) (by decide) dX7_print_11 ⟨rfl, hT, Fl.rfl'⟩

set_option maxHeartbeats 4000000 in
set_option maxRecDepth 20000 in
theorem x_prt_y {l : Launch} {g : cx_G} {w : wd_T} {c a0 tk gN rN tN : Nat} {fn wn : Nat → Nat} {gp by9 rD tD tV tT : Nat → Int32} (hT : TcAt g w a0 tk gN rN tN fn wn gp by9 rD tD tV tT) (hI : Iv9 c tk gN rN tN fn wn by9 tD tV tT) {k9 : Nat} (hk9 : k9 < tk) {i : Nat} (hi : i < (fmT (fv9 fn k9)).length) : Mt l g yX7_print cX7_print 4 (some .int) 5 0 0 w [.ref a0, .int (nI k9), .int (nI i)] (fun v w' => v = some (.int ((fmT (fv9 fn k9))[i]?.getD 0)) ∧ TcAt g w' a0 tk gN rN tN fn wn gp by9 rD tD tV tT ∧ Fl w w') := by
  refine mt_of RX7 "print" rfl rfl (by decide) (Nat.le_of_ble_eq_true rfl) [(0, .ref a0), (1, .int (nI k9)), (2, .int (nI i))] rfl ?_
  intro k hkl C hin
  subst hkl
  have hTk := hT
  obtain ⟨a1, alb, alk, asp, a3, alr, asu, alv, af, asg, elb, elk, er, ab, gp9, T, t0, t1, t2, t3, t4, t5, t6, t7, t8⟩ := hTk
  obtain ⟨i0, i1, i2, i3, i4, i5, i6, i7, i8, i9, i10⟩ := id hI
  obtain ⟨atf, atw, ff, fw, o0, o1, o2, o3, o4⟩ := t5 k9 hk9
  have hb9 : Fb9 (fv9 fn k9) := fv9_fb hI hk9
  obtain ⟨z7f, z70, z71, z72⟩ := id t7
  refine r_aload_n (q := 1) C 0 dX7_print_0 rfl rfl ?_
  refine r_iload_n (q := 2) C 1 dX7_print_1 rfl rfl ?_
  refine r_callV (q := 5) (t := 100) (As := [.int (nI k9)]) (st := []) C koX7 t0 (c_findT_y t0 t4 (by omega) hk9 o0) q408 q405 q407 qp10 q1 rfl ⟨by decide, by decide⟩ (show (parseMethodDescriptor yX7_find.desc).map (fun d => d.parameters.length) = some 1 by decide +kernel) (by decide) (by decide) (by decide) (by decide) (Nat.le_of_ble_eq_true rfl) rfl dX7_print_2 rfl ?_
  rintro v9 w1 ⟨rfl, rfl⟩
  show V g k 4 w 0 0 (kQ g k (fun v w' => v = some (.int ((fmT (fv9 fn k9))[i]?.getD 0)) ∧ TcAt g w' a0 tk gN rN tN fn wn gp by9 rD tD tV tT ∧ Fl w w') 0 0) 5 [(0, .ref a0), (1, .int (nI k9)), (2, .int (nI i))] [.ref (elk k9)]
  refine r_astore_n (q := 6) (lv' := [(3, .ref (elk k9)), (0, .ref a0), (1, .int (nI k9)), (2, .int (nI i))]) C dX7_print_5 (by decide) rfl rfl ?_
  refine r_aload_n (q := 7) C 0 dX7_print_6 rfl rfl ?_
  refine r_ifnonnull (tgt := 12) C dX7_print_7 (by decide) ?_
  refine r_aload_n (q := 13) C 1 dX7_print_12 rfl rfl ?_
  refine r_get (q := 16) (t := 100) C koX7 t0 6 (by decide) q131 rfl rfl dX7_print_13 rfl ?_
  refine r_aload_n (q := 17) C 0 dX7_print_16 rfl rfl ?_
  refine r_callV (q := 20) (t := 115) (As := [.ref (elk k9)]) (st := []) C koX1 z70 (c_fill t7 (by omega) o0 o1 o3 hb9) q487 q484 q485 q486 q8 rfl ⟨by decide, by decide⟩ (show (parseMethodDescriptor yX1_fill.desc).map (fun d => d.parameters.length) = some 1 by decide +kernel) (by decide) (by decide) (by decide) (by decide) (Nat.le_of_ble_eq_true rfl) rfl dX7_print_17 rfl ?_
  rintro v9 w5 ⟨rfl, hF5, ef⟩
  obtain ⟨y7f, y70, y71, y72⟩ := id hF5
  show V g k 4 w5 0 0 (kQ g k (fun v w' => v = some (.int ((fmT (fv9 fn k9))[i]?.getD 0)) ∧ TcAt g w' a0 tk gN rN tN fn wn gp by9 rD tD tV tT ∧ Fl w w') 0 0) 20 [(3, .ref (elk k9)), (0, .ref a0), (1, .int (nI k9)), (2, .int (nI i))] []
  refine r_aload_n (q := 21) C 1 dX7_print_20 rfl rfl ?_
  refine r_get (q := 24) (t := 100) C koX7 ((ef 100 (by omega)).trans t0) 6 (by decide) q131 rfl rfl dX7_print_21 rfl ?_
  refine r_iload_n (q := 25) C 3 dX7_print_24 rfl rfl ?_
  refine r_callV (q := 28) (t := 115) (As := [.int (nI i)]) (st := []) C koX1 y70 (c_sign_y hF5 hi (fmT_len hb9)) q550 q547 q548 q549 q8 rfl ⟨by decide, by decide⟩ (show (parseMethodDescriptor yX1_sign.desc).map (fun d => d.parameters.length) = some 1 by decide +kernel) (by decide) (by decide) (by decide) (by decide) (Nat.le_of_ble_eq_true rfl) rfl dX7_print_25 rfl ?_
  rintro v9 w3 ⟨rfl, rfl⟩
  show V g k 4 w5 0 0 (kQ g k (fun v w' => v = some (.int ((fmT (fv9 fn k9))[i]?.getD 0)) ∧ TcAt g w' a0 tk gN rN tN fn wn gp by9 rD tD tV tT ∧ Fl w w') 0 0) 28 [(3, .ref (elk k9)), (0, .ref a0), (1, .int (nI k9)), (2, .int (nI i))] [.int ((fmT (fv9 fn k9))[i]?.getD 0)]
  exact r_iret C rfl (by decide) (by decide) dX7_print_28 ⟨rfl, ⟨a1, alb, alk, asp, a3, alr, asu, alv, af, asg, elb, elk, er, ab, gp9, _, (ef 100 (by omega)).trans t0, (ef 102 (by omega)).trans t1, t2, t3.kept (by omega) (fun t ht => ef t (by omega)), t4.keptT (by omega) (ef 123 (by omega)) (ef 124 (by omega)) (fun t _ _ => ef t (by omega)), t5.kept (by omega) (fun t _ _ => ef t (by omega)), t6.keptC (by omega) (fun t ht => ef t (by omega)), hF5, fmT_len hb9⟩, fun t ht => ef t (by omega)⟩

set_option maxHeartbeats 4000000 in
set_option maxRecDepth 20000 in
theorem x_prt_f {l : Launch} {g : cx_G} {w : wd_T} {c a0 tk gN rN tN : Nat} {fn wn : Nat → Nat} {gp by9 rD tD tV tT : Nat → Int32} (hT : TcAt g w a0 tk gN rN tN fn wn gp by9 rD tD tV tT) (hI : Iv9 c tk gN rN tN fn wn by9 tD tV tT) {k9 : Nat} (hk9 : k9 < tk) {y : Int32} (hy : y < 0 ∨ nI (fmT (fv9 fn k9)).length ≤ y) : Mt l g yX7_print cX7_print 4 (some .int) 5 0 0 w [.ref a0, .int (nI k9), .int y] (fun v w' => v = some (.int (-1)) ∧ TcAt g w' a0 tk gN rN tN fn wn gp by9 rD tD tV tT ∧ Fl w w') := by
  refine mt_of RX7 "print" rfl rfl (by decide) (Nat.le_of_ble_eq_true rfl) [(0, .ref a0), (1, .int (nI k9)), (2, .int y)] rfl ?_
  intro k hkl C hin
  subst hkl
  have hTk := hT
  obtain ⟨a1, alb, alk, asp, a3, alr, asu, alv, af, asg, elb, elk, er, ab, gp9, T, t0, t1, t2, t3, t4, t5, t6, t7, t8⟩ := hTk
  obtain ⟨i0, i1, i2, i3, i4, i5, i6, i7, i8, i9, i10⟩ := id hI
  obtain ⟨atf, atw, ff, fw, o0, o1, o2, o3, o4⟩ := t5 k9 hk9
  have hb9 : Fb9 (fv9 fn k9) := fv9_fb hI hk9
  obtain ⟨z7f, z70, z71, z72⟩ := id t7
  refine r_aload_n (q := 1) C 0 dX7_print_0 rfl rfl ?_
  refine r_iload_n (q := 2) C 1 dX7_print_1 rfl rfl ?_
  refine r_callV (q := 5) (t := 100) (As := [.int (nI k9)]) (st := []) C koX7 t0 (c_findT_y t0 t4 (by omega) hk9 o0) q408 q405 q407 qp10 q1 rfl ⟨by decide, by decide⟩ (show (parseMethodDescriptor yX7_find.desc).map (fun d => d.parameters.length) = some 1 by decide +kernel) (by decide) (by decide) (by decide) (by decide) (Nat.le_of_ble_eq_true rfl) rfl dX7_print_2 rfl ?_
  rintro v9 w1 ⟨rfl, rfl⟩
  show V g k 4 w 0 0 (kQ g k (fun v w' => v = some (.int (-1)) ∧ TcAt g w' a0 tk gN rN tN fn wn gp by9 rD tD tV tT ∧ Fl w w') 0 0) 5 [(0, .ref a0), (1, .int (nI k9)), (2, .int y)] [.ref (elk k9)]
  refine r_astore_n (q := 6) (lv' := [(3, .ref (elk k9)), (0, .ref a0), (1, .int (nI k9)), (2, .int y)]) C dX7_print_5 (by decide) rfl rfl ?_
  refine r_aload_n (q := 7) C 0 dX7_print_6 rfl rfl ?_
  refine r_ifnonnull (tgt := 12) C dX7_print_7 (by decide) ?_
  refine r_aload_n (q := 13) C 1 dX7_print_12 rfl rfl ?_
  refine r_get (q := 16) (t := 100) C koX7 t0 6 (by decide) q131 rfl rfl dX7_print_13 rfl ?_
  refine r_aload_n (q := 17) C 0 dX7_print_16 rfl rfl ?_
  refine r_callV (q := 20) (t := 115) (As := [.ref (elk k9)]) (st := []) C koX1 z70 (c_fill t7 (by omega) o0 o1 o3 hb9) q487 q484 q485 q486 q8 rfl ⟨by decide, by decide⟩ (show (parseMethodDescriptor yX1_fill.desc).map (fun d => d.parameters.length) = some 1 by decide +kernel) (by decide) (by decide) (by decide) (by decide) (Nat.le_of_ble_eq_true rfl) rfl dX7_print_17 rfl ?_
  rintro v9 w5 ⟨rfl, hF5, ef⟩
  obtain ⟨y7f, y70, y71, y72⟩ := id hF5
  show V g k 4 w5 0 0 (kQ g k (fun v w' => v = some (.int (-1)) ∧ TcAt g w' a0 tk gN rN tN fn wn gp by9 rD tD tV tT ∧ Fl w w') 0 0) 20 [(3, .ref (elk k9)), (0, .ref a0), (1, .int (nI k9)), (2, .int y)] []
  refine r_aload_n (q := 21) C 1 dX7_print_20 rfl rfl ?_
  refine r_get (q := 24) (t := 100) C koX7 ((ef 100 (by omega)).trans t0) 6 (by decide) q131 rfl rfl dX7_print_21 rfl ?_
  refine r_iload_n (q := 25) C 3 dX7_print_24 rfl rfl ?_
  refine r_callV (q := 28) (t := 115) (As := [.int y]) (st := []) C koX1 y70 (c_sign_n hF5 hy) q550 q547 q548 q549 q8 rfl ⟨by decide, by decide⟩ (show (parseMethodDescriptor yX1_sign.desc).map (fun d => d.parameters.length) = some 1 by decide +kernel) (by decide) (by decide) (by decide) (by decide) (Nat.le_of_ble_eq_true rfl) rfl dX7_print_25 rfl ?_
  rintro v9 w3 ⟨rfl, rfl⟩
  show V g k 4 w5 0 0 (kQ g k (fun v w' => v = some (.int (-1)) ∧ TcAt g w' a0 tk gN rN tN fn wn gp by9 rD tD tV tT ∧ Fl w w') 0 0) 28 [(3, .ref (elk k9)), (0, .ref a0), (1, .int (nI k9)), (2, .int y)] [.int (-1)]
  exact r_iret C rfl (by decide) (by decide) dX7_print_28 ⟨rfl, ⟨a1, alb, alk, asp, a3, alr, asu, alv, af, asg, elb, elk, er, ab, gp9, _, (ef 100 (by omega)).trans t0, (ef 102 (by omega)).trans t1, t2, t3.kept (by omega) (fun t ht => ef t (by omega)), t4.keptT (by omega) (ef 123 (by omega)) (ef 124 (by omega)) (fun t _ _ => ef t (by omega)), t5.kept (by omega) (fun t _ _ => ef t (by omega)), t6.keptC (by omega) (fun t ht => ef t (by omega)), hF5, fmT_len hb9⟩, fun t ht => ef t (by omega)⟩

set_option maxHeartbeats 4000000 in
set_option maxRecDepth 20000 in
theorem x_pk_n {l : Launch} {g : cx_G} {w : wd_T} {c a0 tk gN rN tN : Nat} {fn wn : Nat → Nat} {gp by9 rD tD tV tT : Nat → Int32} (hT : TcAt g w a0 tk gN rN tN fn wn gp by9 rD tD tV tT) (hI : Iv9 c tk gN rN tN fn wn by9 tD tV tT) {x : Int32} (hx : x < 0 ∨ nI rN ≤ x) {y z : Int32} : Mt l g yX7_poke cX7_poke 5 (some .boolean) 4 0 0 w [.ref a0, .int x, .int y, .int z] (fun v w' => v = some (.int (nI 0)) ∧ TcAt g w' a0 tk gN rN tN fn wn gp by9 rD tD tV tT ∧ Fl w w') := by
  refine mt_of RX7 "poke" rfl rfl (by decide) (Nat.le_of_ble_eq_true rfl) [(0, .ref a0), (1, .int x), (2, .int y), (3, .int z)] rfl ?_
  intro k hkl C hin
  subst hkl
  have hTk := hT
  obtain ⟨a1, alb, alk, asp, a3, alr, asu, alv, af, asg, elb, elk, er, ab, gp9, T, t0, t1, t2, t3, t4, t5, t6, t7, t8⟩ := hTk
  obtain ⟨i0, i1, i2, i3, i4, i5, i6, i7, i8, i9, i10⟩ := id hI
  refine r_aload_n (q := 1) C 0 dX7_poke_0 rfl rfl ?_
  refine r_get (q := 4) (t := 100) C koX7 t0 5 (by decide) q130 rfl rfl dX7_poke_1 rfl ?_
  refine r_iload_n (q := 5) C 1 dX7_poke_4 rfl rfl ?_
  refine r_callV (q := 8) (t := 103) (As := [.int x]) (st := []) C koX0 t6.1 (c_find_n t6 (by omega) hx) q341 q555 q339 q340 q6 rfl ⟨by decide, by decide⟩ (show (parseMethodDescriptor yX0_find.desc).map (fun d => d.parameters.length) = some 1 by decide +kernel) (by decide) (by decide) (by decide) (by decide) (Nat.le_of_ble_eq_true rfl) rfl dX7_poke_5 rfl ?_
  rintro v9 w1 ⟨rfl, rfl⟩
  show V g k 5 w 0 0 (kQ g k (fun v w' => v = some (.int (nI 0)) ∧ TcAt g w' a0 tk gN rN tN fn wn gp by9 rD tD tV tT ∧ Fl w w') 0 0) 8 [(0, .ref a0), (1, .int x), (2, .int y), (3, .int z)] [.null]
  refine r_astoreN (q := 10) (lv' := [(4, .null), (0, .ref a0), (1, .int x), (2, .int y), (3, .int z)]) C dX7_poke_8 (by decide) rfl rfl ?_
  refine r_aloadN (q := 12) C 0 dX7_poke_10 rfl rfl ?_
  refine r_ifnullN (tgt := 27) C dX7_poke_12 (by decide) ?_
  refine r_iconst (q := 28) C (nI 0) dX7_poke_27 (by decide) rfl ?_
  exact r_zret C rfl rfl (by decide) (by decide) dX7_poke_28 ⟨rfl, hT, Fl.rfl'⟩

set_option maxHeartbeats 4000000 in
set_option maxRecDepth 20000 in
theorem x_pk_m {l : Launch} {g : cx_G} {w : wd_T} {c a0 tk gN rN tN : Nat} {fn wn : Nat → Nat} {gp by9 rD tD tV tT : Nat → Int32} (hT : TcAt g w a0 tk gN rN tN fn wn gp by9 rD tD tV tT) (hI : Iv9 c tk gN rN tN fn wn by9 tD tV tT) {k9 : Nat} (hk9 : k9 < rN) {y z : Int32} (hz : z < nI 1 ∨ nI 255 < z) : Mt l g yX7_poke cX7_poke 5 (some .boolean) 4 0 0 w [.ref a0, .int (nI k9), .int y, .int z] (fun v w' => v = some (.int (nI 0)) ∧ TcAt g w' a0 tk gN rN tN fn wn gp by9 rD tD tV tT ∧ Fl w w') := by
  refine mt_of RX7 "poke" rfl rfl (by decide) (Nat.le_of_ble_eq_true rfl) [(0, .ref a0), (1, .int (nI k9)), (2, .int y), (3, .int z)] rfl ?_
  intro k hkl C hin
  subst hkl
  have hTk := hT
  obtain ⟨a1, alb, alk, asp, a3, alr, asu, alv, af, asg, elb, elk, er, ab, gp9, T, t0, t1, t2, t3, t4, t5, t6, t7, t8⟩ := hTk
  obtain ⟨i0, i1, i2, i3, i4, i5, i6, i7, i8, i9, i10⟩ := id hI
  obtain ⟨⟨wr, r0⟩, fb, r1, r2⟩ := t6.2.2.1 k9 hk9
  have r1' : w (2000 + 2 * k9 + 1) = some (ab k9, aB g 73 fb) := by rw [show 2000 + 2 * k9 + 1 = 2001 + 2 * k9 by omega]; exact r1
  refine r_aload_n (q := 1) C 0 dX7_poke_0 rfl rfl ?_
  refine r_get (q := 4) (t := 100) C koX7 t0 5 (by decide) q130 rfl rfl dX7_poke_1 rfl ?_
  refine r_iload_n (q := 5) C 1 dX7_poke_4 rfl rfl ?_
  refine r_callV (q := 8) (t := 103) (As := [.int (nI k9)]) (st := []) C koX0 t6.1 (c_find_y t6 (by omega) hk9) q341 q555 q339 q340 q6 rfl ⟨by decide, by decide⟩ (show (parseMethodDescriptor yX0_find.desc).map (fun d => d.parameters.length) = some 1 by decide +kernel) (by decide) (by decide) (by decide) (by decide) (Nat.le_of_ble_eq_true rfl) rfl dX7_poke_5 rfl ?_
  rintro v9 w1 ⟨rfl, rfl⟩
  show V g k 5 w 0 0 (kQ g k (fun v w' => v = some (.int (nI 0)) ∧ TcAt g w' a0 tk gN rN tN fn wn gp by9 rD tD tV tT ∧ Fl w w') 0 0) 8 [(0, .ref a0), (1, .int (nI k9)), (2, .int y), (3, .int z)] [.ref (er k9)]
  refine r_astore (q := 10) (lv' := [(4, .ref (er k9)), (0, .ref a0), (1, .int (nI k9)), (2, .int y), (3, .int z)]) C dX7_poke_8 (by decide) rfl rfl ?_
  refine r_aload (q := 12) C 0 dX7_poke_10 rfl rfl ?_
  refine r_ifnull (q := 15) C dX7_poke_12 rfl ?_
  refine r_iload_n (q := 16) C 4 dX7_poke_15 rfl rfl ?_
  refine r_iconst (q := 17) C (nI 1) dX7_poke_16 (by decide) rfl ?_
  refine r_icmp_lt (q := 20) (tgt := 27) C dX7_poke_17 (by decide) rfl (fun hc2 => ?_) (fun hc2 => ?_)
  · refine r_iconst (q := 28) C (nI 0) dX7_poke_27 (by decide) rfl ?_
    exact r_zret C rfl rfl (by decide) (by decide) dX7_poke_28 ⟨rfl, hT, Fl.rfl'⟩
  · refine r_iload_n (q := 21) C 4 dX7_poke_20 rfl rfl ?_
    refine r_sipush (q := 24) C (nI 255) dX7_poke_21 (by decide) rfl ?_
    refine r_icmp_le_f (q := 27) (tgt := 29) C dX7_poke_24 (by decide) rfl (by rcases hz with q | q; exact absurd q hc2; exact Int32.not_le.mpr q) ?_
    refine r_iconst (q := 28) C (nI 0) dX7_poke_27 (by decide) rfl ?_
    exact r_zret C rfl rfl (by decide) (by decide) dX7_poke_28 ⟨rfl, hT, Fl.rfl'⟩

set_option maxHeartbeats 4000000 in
set_option maxRecDepth 20000 in
theorem x_pk_i {l : Launch} {g : cx_G} {w : wd_T} {c a0 tk gN rN tN : Nat} {fn wn : Nat → Nat} {gp by9 rD tD tV tT : Nat → Int32} (hT : TcAt g w a0 tk gN rN tN fn wn gp by9 rD tD tV tT) (hI : Iv9 c tk gN rN tN fn wn by9 tD tV tT) {k9 : Nat} (hk9 : k9 < rN) {y z : Int32} (hz1 : ¬ z < nI 1) (hz2 : z ≤ nI 255) (hy : y < 0 ∨ nI 73 ≤ y) : Mt l g yX7_poke cX7_poke 5 (some .boolean) 4 0 0 w [.ref a0, .int (nI k9), .int y, .int z] (fun v w' => v = some (.int (nI 0)) ∧ TcAt g w' a0 tk gN rN tN fn wn gp by9 rD tD tV tT ∧ Fl w w') := by
  refine mt_of RX7 "poke" rfl rfl (by decide) (Nat.le_of_ble_eq_true rfl) [(0, .ref a0), (1, .int (nI k9)), (2, .int y), (3, .int z)] rfl ?_
  intro k hkl C hin
  subst hkl
  have hTk := hT
  obtain ⟨a1, alb, alk, asp, a3, alr, asu, alv, af, asg, elb, elk, er, ab, gp9, T, t0, t1, t2, t3, t4, t5, t6, t7, t8⟩ := hTk
  obtain ⟨i0, i1, i2, i3, i4, i5, i6, i7, i8, i9, i10⟩ := id hI
  obtain ⟨⟨wr, r0⟩, fb, r1, r2⟩ := t6.2.2.1 k9 hk9
  have r1' : w (2000 + 2 * k9 + 1) = some (ab k9, aB g 73 fb) := by rw [show 2000 + 2 * k9 + 1 = 2001 + 2 * k9 by omega]; exact r1
  refine r_aload_n (q := 1) C 0 dX7_poke_0 rfl rfl ?_
  refine r_get (q := 4) (t := 100) C koX7 t0 5 (by decide) q130 rfl rfl dX7_poke_1 rfl ?_
  refine r_iload_n (q := 5) C 1 dX7_poke_4 rfl rfl ?_
  refine r_callV (q := 8) (t := 103) (As := [.int (nI k9)]) (st := []) C koX0 t6.1 (c_find_y t6 (by omega) hk9) q341 q555 q339 q340 q6 rfl ⟨by decide, by decide⟩ (show (parseMethodDescriptor yX0_find.desc).map (fun d => d.parameters.length) = some 1 by decide +kernel) (by decide) (by decide) (by decide) (by decide) (Nat.le_of_ble_eq_true rfl) rfl dX7_poke_5 rfl ?_
  rintro v9 w1 ⟨rfl, rfl⟩
  show V g k 5 w 0 0 (kQ g k (fun v w' => v = some (.int (nI 0)) ∧ TcAt g w' a0 tk gN rN tN fn wn gp by9 rD tD tV tT ∧ Fl w w') 0 0) 8 [(0, .ref a0), (1, .int (nI k9)), (2, .int y), (3, .int z)] [.ref (er k9)]
  refine r_astore (q := 10) (lv' := [(4, .ref (er k9)), (0, .ref a0), (1, .int (nI k9)), (2, .int y), (3, .int z)]) C dX7_poke_8 (by decide) rfl rfl ?_
  refine r_aload (q := 12) C 0 dX7_poke_10 rfl rfl ?_
  refine r_ifnull (q := 15) C dX7_poke_12 rfl ?_
  refine r_iload_n (q := 16) C 4 dX7_poke_15 rfl rfl ?_
  refine r_iconst (q := 17) C (nI 1) dX7_poke_16 (by decide) rfl ?_
  refine r_icmp_lt_f (q := 20) (tgt := 27) C dX7_poke_17 (by decide) rfl (hz1) ?_
  refine r_iload_n (q := 21) C 4 dX7_poke_20 rfl rfl ?_
  refine r_sipush (q := 24) C (nI 255) dX7_poke_21 (by decide) rfl ?_
  refine r_icmp_le_t (tgt := 29) C dX7_poke_24 (by decide) (hz2) ?_
  refine r_aload (q := 31) C 0 dX7_poke_29 rfl rfl ?_
  refine r_iload_n (q := 32) C 3 dX7_poke_31 rfl rfl ?_
  refine r_iload_n (q := 33) C 4 dX7_poke_32 rfl rfl ?_
  refine r_callV (q := 36) (t := (2000 + 2 * k9)) (As := [.int y, .int z]) (st := []) C koX2 r0 (c_chg_n r0 r1' hy) q559 q556 q557 q558 q18 rfl ⟨by decide, by decide⟩ (show (parseMethodDescriptor yX2_change.desc).map (fun d => d.parameters.length) = some 2 by decide +kernel) (by decide) (by decide) (by decide) (by decide) (Nat.le_of_ble_eq_true rfl) rfl dX7_poke_33 rfl ?_
  rintro v9 w2 ⟨rfl, rfl⟩
  show V g k 5 w 0 0 (kQ g k (fun v w' => v = some (.int (nI 0)) ∧ TcAt g w' a0 tk gN rN tN fn wn gp by9 rD tD tV tT ∧ Fl w w') 0 0) 36 [(4, .ref (er k9)), (0, .ref a0), (1, .int (nI k9)), (2, .int y), (3, .int z)] [.int (nI 0)]
  exact r_zret C rfl rfl (by decide) (by decide) dX7_poke_36 ⟨rfl, hT, Fl.rfl'⟩

set_option maxHeartbeats 4000000 in
set_option maxRecDepth 20000 in
theorem x_pk_y {l : Launch} {g : cx_G} {w : wd_T} {c a0 tk gN rN tN : Nat} {fn wn : Nat → Nat} {gp by9 rD tD tV tT : Nat → Int32} (hT : TcAt g w a0 tk gN rN tN fn wn gp by9 rD tD tV tT) (hI : Iv9 c tk gN rN tN fn wn by9 tD tV tT) {k9 : Nat} (hk9 : k9 < rN) {i : Nat} {z : Int32} (hi : i < 73) (hz1 : ¬ z < nI 1) (hz2 : z ≤ nI 255) : Mt l g yX7_poke cX7_poke 5 (some .boolean) 4 0 0 w [.ref a0, .int (nI k9), .int (nI i), .int z] (fun v w' => v = some (.int (nI 1)) ∧ TcAt g w' a0 tk gN rN tN fn wn gp (upd by9 (73 * k9 + i) (by9 (73 * k9 + i) ^^^ z).toInt8.toInt32) rD tD tV tT ∧ Fl w w') := by
  refine mt_of RX7 "poke" rfl rfl (by decide) (Nat.le_of_ble_eq_true rfl) [(0, .ref a0), (1, .int (nI k9)), (2, .int (nI i)), (3, .int z)] rfl ?_
  intro k hkl C hin
  subst hkl
  have hTk := hT
  obtain ⟨a1, alb, alk, asp, a3, alr, asu, alv, af, asg, elb, elk, er, ab, gp9, T, t0, t1, t2, t3, t4, t5, t6, t7, t8⟩ := hTk
  obtain ⟨i0, i1, i2, i3, i4, i5, i6, i7, i8, i9, i10⟩ := id hI
  obtain ⟨⟨wr, r0⟩, fb, r1, r2⟩ := t6.2.2.1 k9 hk9
  have r1' : w (2000 + 2 * k9 + 1) = some (ab k9, aB g 73 fb) := by rw [show 2000 + 2 * k9 + 1 = 2001 + 2 * k9 by omega]; exact r1
  refine r_aload_n (q := 1) C 0 dX7_poke_0 rfl rfl ?_
  refine r_get (q := 4) (t := 100) C koX7 t0 5 (by decide) q130 rfl rfl dX7_poke_1 rfl ?_
  refine r_iload_n (q := 5) C 1 dX7_poke_4 rfl rfl ?_
  refine r_callV (q := 8) (t := 103) (As := [.int (nI k9)]) (st := []) C koX0 t6.1 (c_find_y t6 (by omega) hk9) q341 q555 q339 q340 q6 rfl ⟨by decide, by decide⟩ (show (parseMethodDescriptor yX0_find.desc).map (fun d => d.parameters.length) = some 1 by decide +kernel) (by decide) (by decide) (by decide) (by decide) (Nat.le_of_ble_eq_true rfl) rfl dX7_poke_5 rfl ?_
  rintro v9 w1 ⟨rfl, rfl⟩
  show V g k 5 w 0 0 (kQ g k (fun v w' => v = some (.int (nI 1)) ∧ TcAt g w' a0 tk gN rN tN fn wn gp (upd by9 (73 * k9 + i) (by9 (73 * k9 + i) ^^^ z).toInt8.toInt32) rD tD tV tT ∧ Fl w w') 0 0) 8 [(0, .ref a0), (1, .int (nI k9)), (2, .int (nI i)), (3, .int z)] [.ref (er k9)]
  refine r_astore (q := 10) (lv' := [(4, .ref (er k9)), (0, .ref a0), (1, .int (nI k9)), (2, .int (nI i)), (3, .int z)]) C dX7_poke_8 (by decide) rfl rfl ?_
  refine r_aload (q := 12) C 0 dX7_poke_10 rfl rfl ?_
  refine r_ifnull (q := 15) C dX7_poke_12 rfl ?_
  refine r_iload_n (q := 16) C 4 dX7_poke_15 rfl rfl ?_
  refine r_iconst (q := 17) C (nI 1) dX7_poke_16 (by decide) rfl ?_
  refine r_icmp_lt_f (q := 20) (tgt := 27) C dX7_poke_17 (by decide) rfl (hz1) ?_
  refine r_iload_n (q := 21) C 4 dX7_poke_20 rfl rfl ?_
  refine r_sipush (q := 24) C (nI 255) dX7_poke_21 (by decide) rfl ?_
  refine r_icmp_le_t (tgt := 29) C dX7_poke_24 (by decide) (hz2) ?_
  refine r_aload (q := 31) C 0 dX7_poke_29 rfl rfl ?_
  refine r_iload_n (q := 32) C 3 dX7_poke_31 rfl rfl ?_
  refine r_iload_n (q := 33) C 4 dX7_poke_32 rfl rfl ?_
  refine r_callV (q := 36) (t := (2000 + 2 * k9)) (As := [.int (nI i), .int z]) (st := []) C koX2 r0 (c_chg_y r0 r1' hi) q559 q556 q557 q558 q18 rfl ⟨by decide, by decide⟩ (show (parseMethodDescriptor yX2_change.desc).map (fun d => d.parameters.length) = some 2 by decide +kernel) (by decide) (by decide) (by decide) (by decide) (Nat.le_of_ble_eq_true rfl) rfl dX7_poke_33 rfl ?_
  rintro v9 w5 ⟨rfl, e0, ef⟩
  show V g k 5 w5 0 0 (kQ g k (fun v w' => v = some (.int (nI 1)) ∧ TcAt g w' a0 tk gN rN tN fn wn gp (upd by9 (73 * k9 + i) (by9 (73 * k9 + i) ^^^ z).toInt8.toInt32) rD tD tV tT ∧ Fl w w') 0 0) 36 [(4, .ref (er k9)), (0, .ref a0), (1, .int (nI k9)), (2, .int (nI i)), (3, .int z)] [.int (nI 1)]
  have k5 : ∀ t, t ≠ 2001 + 2 * k9 → w5 t = w t := fun t ht => ef t (by omega)
  refine r_zret C rfl rfl (by decide) (by decide) dX7_poke_36 ⟨rfl, ⟨a1, alb, alk, asp, a3, alr, asu, alv, af, asg, elb, elk, er, ab, gp9, T, (k5 100 (by omega)).trans t0, (k5 102 (by omega)).trans t1, t2, t3.kept (by omega) (fun t ht => k5 t (by omega)), t4.keptT (by omega) (k5 123 (by omega)) (k5 124 (by omega)) (fun t _ _ => k5 t (by omega)), t5.kept (by omega) (fun t _ _ => k5 t (by omega)), ⟨(k5 103 (by omega)).trans t6.1, t6.2.1.keptR (k5 126 (by omega)) (k5 127 (by omega)) (fun j hj => k5 _ (by omega)), ?_, t6.2.2.2.1.kept (fun t _ _ => k5 t (by omega)), ?_⟩, t7.kept (k5 115 (by omega)) (k5 116 (by omega)), t8⟩, fun t ht => k5 t (by omega)⟩
  · intro r hr
    obtain ⟨⟨wr2, q0⟩, fb2, q1, q2⟩ := t6.2.2.1 r hr
    refine ⟨⟨wr2, (k5 _ (by omega)).trans q0⟩, ?_⟩
    by_cases zr : r = k9
    · subst zr
      refine ⟨_, by rw [show 2001 + 2 * r = 2000 + 2 * r + 1 by omega]; exact e0, fun j hj => ?_⟩
      unfold upd
      by_cases y : j = i
      · rw [if_pos y, if_pos (by omega), r2 i hi]
      · rw [if_neg y, if_neg (by omega), r2 j hj]
    · refine ⟨fb2, (k5 _ (by omega)).trans q1, fun j hj => ?_⟩
      unfold upd
      rw [if_neg (by omega), q2 j hj]
  · obtain ⟨lev, q1, q2⟩ := t6.2.2.2.2
    exact ⟨lev, (k5 _ (by omega)).trans q1, q2⟩

set_option maxHeartbeats 4000000 in
set_option maxRecDepth 20000 in
theorem x_dig_n {l : Launch} {g : cx_G} {w : wd_T} {c a0 tk gN rN tN : Nat} {fn wn : Nat → Nat} {gp by9 rD tD tV tT : Nat → Int32} (hT : TcAt g w a0 tk gN rN tN fn wn gp by9 rD tD tV tT) (hI : Iv9 c tk gN rN tN fn wn by9 tD tV tT) {x : Int32} (hx : x < 0 ∨ nI rN ≤ x) {y : Int32} : Mt l g yX7_digest cX7_digest 4 (some .int) 4 0 0 w [.ref a0, .int x, .int y] (fun v w' => v = some (.int (-1)) ∧ TcAt g w' a0 tk gN rN tN fn wn gp by9 rD tD tV tT ∧ Fl w w') := by
  refine mt_of RX7 "digest" rfl rfl (by decide) (Nat.le_of_ble_eq_true rfl) [(0, .ref a0), (1, .int x), (2, .int y)] rfl ?_
  intro k hkl C hin
  subst hkl
  have hTk := hT
  obtain ⟨a1, alb, alk, asp, a3, alr, asu, alv, af, asg, elb, elk, er, ab, gp9, T, t0, t1, t2, t3, t4, t5, t6, t7, t8⟩ := hTk
  obtain ⟨i0, i1, i2, i3, i4, i5, i6, i7, i8, i9, i10⟩ := id hI
  refine r_aload_n (q := 1) C 0 dX7_digest_0 rfl rfl ?_
  refine r_get (q := 4) (t := 100) C koX7 t0 5 (by decide) q130 rfl rfl dX7_digest_1 rfl ?_
  refine r_iload_n (q := 5) C 1 dX7_digest_4 rfl rfl ?_
  refine r_callV (q := 8) (t := 103) (As := [.int x]) (st := []) C koX0 t6.1 (c_find_n t6 (by omega) hx) q341 q555 q339 q340 q6 rfl ⟨by decide, by decide⟩ (show (parseMethodDescriptor yX0_find.desc).map (fun d => d.parameters.length) = some 1 by decide +kernel) (by decide) (by decide) (by decide) (by decide) (Nat.le_of_ble_eq_true rfl) rfl dX7_digest_5 rfl ?_
  rintro v9 w1 ⟨rfl, rfl⟩
  show V g k 4 w 0 0 (kQ g k (fun v w' => v = some (.int (-1)) ∧ TcAt g w' a0 tk gN rN tN fn wn gp by9 rD tD tV tT ∧ Fl w w') 0 0) 8 [(0, .ref a0), (1, .int x), (2, .int y)] [.null]
  refine r_astore_nN (q := 9) (lv' := [(3, .null), (0, .ref a0), (1, .int x), (2, .int y)]) C dX7_digest_8 (by decide) rfl rfl ?_
  refine r_aload_nN (q := 10) C 0 dX7_digest_9 rfl rfl ?_
  refine r_ifnullN (tgt := 23) C dX7_digest_10 (by decide) ?_
  refine r_iconst (q := 24) C ((-1)) dX7_digest_23 (by decide) rfl ?_
  exact r_iret C rfl (by decide) (by decide) dX7_digest_24 ⟨rfl, hT, Fl.rfl'⟩

set_option maxHeartbeats 4000000 in
set_option maxRecDepth 20000 in
theorem x_dig_i {l : Launch} {g : cx_G} {w : wd_T} {c a0 tk gN rN tN : Nat} {fn wn : Nat → Nat} {gp by9 rD tD tV tT : Nat → Int32} (hT : TcAt g w a0 tk gN rN tN fn wn gp by9 rD tD tV tT) (hI : Iv9 c tk gN rN tN fn wn by9 tD tV tT) {k9 : Nat} (hk9 : k9 < rN) {y : Int32} (hy : y < 0 ∨ nI 32 ≤ y) : Mt l g yX7_digest cX7_digest 4 (some .int) 4 0 0 w [.ref a0, .int (nI k9), .int y] (fun v w' => v = some (.int (-1)) ∧ TcAt g w' a0 tk gN rN tN fn wn gp by9 rD tD tV tT ∧ Fl w w') := by
  refine mt_of RX7 "digest" rfl rfl (by decide) (Nat.le_of_ble_eq_true rfl) [(0, .ref a0), (1, .int (nI k9)), (2, .int y)] rfl ?_
  intro k hkl C hin
  subst hkl
  have hTk := hT
  obtain ⟨a1, alb, alk, asp, a3, alr, asu, alv, af, asg, elb, elk, er, ab, gp9, T, t0, t1, t2, t3, t4, t5, t6, t7, t8⟩ := hTk
  obtain ⟨i0, i1, i2, i3, i4, i5, i6, i7, i8, i9, i10⟩ := id hI
  obtain ⟨⟨wr, r0⟩, fb, r1, r2⟩ := t6.2.2.1 k9 hk9
  have r1' : w (2000 + 2 * k9 + 1) = some (ab k9, aB g 73 fb) := by rw [show 2000 + 2 * k9 + 1 = 2001 + 2 * k9 by omega]; exact r1
  refine r_aload_n (q := 1) C 0 dX7_digest_0 rfl rfl ?_
  refine r_get (q := 4) (t := 100) C koX7 t0 5 (by decide) q130 rfl rfl dX7_digest_1 rfl ?_
  refine r_iload_n (q := 5) C 1 dX7_digest_4 rfl rfl ?_
  refine r_callV (q := 8) (t := 103) (As := [.int (nI k9)]) (st := []) C koX0 t6.1 (c_find_y t6 (by omega) hk9) q341 q555 q339 q340 q6 rfl ⟨by decide, by decide⟩ (show (parseMethodDescriptor yX0_find.desc).map (fun d => d.parameters.length) = some 1 by decide +kernel) (by decide) (by decide) (by decide) (by decide) (Nat.le_of_ble_eq_true rfl) rfl dX7_digest_5 rfl ?_
  rintro v9 w1 ⟨rfl, rfl⟩
  show V g k 4 w 0 0 (kQ g k (fun v w' => v = some (.int (-1)) ∧ TcAt g w' a0 tk gN rN tN fn wn gp by9 rD tD tV tT ∧ Fl w w') 0 0) 8 [(0, .ref a0), (1, .int (nI k9)), (2, .int y)] [.ref (er k9)]
  refine r_astore_n (q := 9) (lv' := [(3, .ref (er k9)), (0, .ref a0), (1, .int (nI k9)), (2, .int y)]) C dX7_digest_8 (by decide) rfl rfl ?_
  refine r_aload_n (q := 10) C 0 dX7_digest_9 rfl rfl ?_
  refine r_ifnull (q := 13) C dX7_digest_10 rfl ?_
  refine r_iload_n (q := 14) C 3 dX7_digest_13 rfl rfl ?_
  refine r_if_lt (q := 17) (tgt := 23) C dX7_digest_14 (by decide) rfl (fun hc2 => ?_) (fun hc2 => ?_)
  · refine r_iconst (q := 24) C ((-1)) dX7_digest_23 (by decide) rfl ?_
    exact r_iret C rfl (by decide) (by decide) dX7_digest_24 ⟨rfl, hT, Fl.rfl'⟩
  · refine r_iload_n (q := 18) C 3 dX7_digest_17 rfl rfl ?_
    refine r_bipush (q := 20) C (nI 32) dX7_digest_18 (by decide) rfl ?_
    refine r_icmp_lt_f (q := 23) (tgt := 25) C dX7_digest_20 (by decide) rfl (by rcases hy with q | q; exact absurd q hc2; exact Int32.not_lt.mpr q) ?_
    refine r_iconst (q := 24) C ((-1)) dX7_digest_23 (by decide) rfl ?_
    exact r_iret C rfl (by decide) (by decide) dX7_digest_24 ⟨rfl, hT, Fl.rfl'⟩

set_option maxHeartbeats 4000000 in
set_option maxRecDepth 20000 in
theorem x_dig_y {l : Launch} {g : cx_G} {w : wd_T} {c a0 tk gN rN tN : Nat} {fn wn : Nat → Nat} {gp by9 rD tD tV tT : Nat → Int32} (hT : TcAt g w a0 tk gN rN tN fn wn gp by9 rD tD tV tT) (hI : Iv9 c tk gN rN tN fn wn by9 tD tV tT) {k9 : Nat} (hk9 : k9 < rN) {i : Nat} (hi : i < 32) : Mt l g yX7_digest cX7_digest 4 (some .int) 4 0 0 w [.ref a0, .int (nI k9), .int (nI i)] (fun v w' => v = some (.int (by9 (73 * k9 + (41 + i)) &&& nI 255)) ∧ TcAt g w' a0 tk gN rN tN fn wn gp by9 rD tD tV tT ∧ Fl w w') := by
  refine mt_of RX7 "digest" rfl rfl (by decide) (Nat.le_of_ble_eq_true rfl) [(0, .ref a0), (1, .int (nI k9)), (2, .int (nI i))] rfl ?_
  intro k hkl C hin
  subst hkl
  have hTk := hT
  obtain ⟨a1, alb, alk, asp, a3, alr, asu, alv, af, asg, elb, elk, er, ab, gp9, T, t0, t1, t2, t3, t4, t5, t6, t7, t8⟩ := hTk
  obtain ⟨i0, i1, i2, i3, i4, i5, i6, i7, i8, i9, i10⟩ := id hI
  obtain ⟨⟨wr, r0⟩, fb, r1, r2⟩ := t6.2.2.1 k9 hk9
  have r1' : w (2000 + 2 * k9 + 1) = some (ab k9, aB g 73 fb) := by rw [show 2000 + 2 * k9 + 1 = 2001 + 2 * k9 by omega]; exact r1
  refine r_aload_n (q := 1) C 0 dX7_digest_0 rfl rfl ?_
  refine r_get (q := 4) (t := 100) C koX7 t0 5 (by decide) q130 rfl rfl dX7_digest_1 rfl ?_
  refine r_iload_n (q := 5) C 1 dX7_digest_4 rfl rfl ?_
  refine r_callV (q := 8) (t := 103) (As := [.int (nI k9)]) (st := []) C koX0 t6.1 (c_find_y t6 (by omega) hk9) q341 q555 q339 q340 q6 rfl ⟨by decide, by decide⟩ (show (parseMethodDescriptor yX0_find.desc).map (fun d => d.parameters.length) = some 1 by decide +kernel) (by decide) (by decide) (by decide) (by decide) (Nat.le_of_ble_eq_true rfl) rfl dX7_digest_5 rfl ?_
  rintro v9 w1 ⟨rfl, rfl⟩
  show V g k 4 w 0 0 (kQ g k (fun v w' => v = some (.int (by9 (73 * k9 + (41 + i)) &&& nI 255)) ∧ TcAt g w' a0 tk gN rN tN fn wn gp by9 rD tD tV tT ∧ Fl w w') 0 0) 8 [(0, .ref a0), (1, .int (nI k9)), (2, .int (nI i))] [.ref (er k9)]
  refine r_astore_n (q := 9) (lv' := [(3, .ref (er k9)), (0, .ref a0), (1, .int (nI k9)), (2, .int (nI i))]) C dX7_digest_8 (by decide) rfl rfl ?_
  refine r_aload_n (q := 10) C 0 dX7_digest_9 rfl rfl ?_
  refine r_ifnull (q := 13) C dX7_digest_10 rfl ?_
  refine r_iload_n (q := 14) C 3 dX7_digest_13 rfl rfl ?_
  refine r_if_lt_f (q := 17) (tgt := 23) C dX7_digest_14 (by decide) rfl (nI_pos (by omega)) ?_
  refine r_iload_n (q := 18) C 3 dX7_digest_17 rfl rfl ?_
  refine r_bipush (q := 20) C (nI 32) dX7_digest_18 (by decide) rfl ?_
  refine r_icmp_lt_t (tgt := 25) C dX7_digest_20 (by decide) ((nI_ltI (a := i) (b := 32) (by omega) (by omega)).mpr (by omega)) ?_
  refine r_aload_n (q := 26) C 0 dX7_digest_25 rfl rfl ?_
  refine r_bipush (q := 28) C (nI 41) dX7_digest_26 (by decide) rfl ?_
  refine r_iload_n (q := 29) C 3 dX7_digest_28 rfl rfl ?_
  refine r_iadd (q := 30) C dX7_digest_29 rfl ?_
  refine r_ti (show ((nI 41) + (nI i) : Int32) = nI (41 + i) from nI_add 41 i) ?_
  refine r_callV (q := 33) (t := (2000 + 2 * k9)) (As := [.int (nI (41 + i))]) (st := []) C koX2 r0 (c_val_y r0 r1' (i := 41 + i) (by omega)) q571 q568 q569 q570 q18 rfl ⟨by decide, by decide⟩ (show (parseMethodDescriptor yX2_value.desc).map (fun d => d.parameters.length) = some 1 by decide +kernel) (by decide) (by decide) (by decide) (by decide) (Nat.le_of_ble_eq_true rfl) rfl dX7_digest_30 rfl ?_
  rintro v9 w2 ⟨rfl, rfl⟩
  show V g k 4 w 0 0 (kQ g k (fun v w' => v = some (.int (by9 (73 * k9 + (41 + i)) &&& nI 255)) ∧ TcAt g w' a0 tk gN rN tN fn wn gp by9 rD tD tV tT ∧ Fl w w') 0 0) 33 [(3, .ref (er k9)), (0, .ref a0), (1, .int (nI k9)), (2, .int (nI i))] [.int (fb (41 + i) &&& nI 255)]
  exact r_iret C rfl (by decide) (by decide) dX7_digest_33 ⟨by rw [r2 _ (by omega)], hT, Fl.rfl'⟩

set_option maxHeartbeats 4000000 in
set_option maxRecDepth 20000 in
theorem x_chk_n {l : Launch} {g : cx_G} {w : wd_T} {c a0 tk gN rN tN : Nat} {fn wn : Nat → Nat} {gp by9 rD tD tV tT : Nat → Int32} (hT : TcAt g w a0 tk gN rN tN fn wn gp by9 rD tD tV tT) (hI : Iv9 c tk gN rN tN fn wn by9 tD tV tT) {x : Int32} (hx : x < 0 ∨ nI rN < x) : Mt l g yX7_check cX7_check 3 (some .int) 6 0 0 w [.ref a0, .int x] (fun v w' => v = some (.int (-1)) ∧ TcAt g w' a0 tk gN rN tN fn wn gp by9 rD tD tV tT ∧ Fl w w') := by
  refine mt_of RX7 "check" rfl rfl (by decide) (Nat.le_of_ble_eq_true rfl) [(0, .ref a0), (1, .int x)] rfl ?_
  intro k hkl C hin
  subst hkl
  have hTk := hT
  obtain ⟨a1, alb, alk, asp, a3, alr, asu, alv, af, asg, elb, elk, er, ab, gp9, T, t0, t1, t2, t3, t4, t5, t6, t7, t8⟩ := hTk
  obtain ⟨i0, i1, i2, i3, i4, i5, i6, i7, i8, i9, i10⟩ := id hI
  refine r_iload_n (q := 1) C 1 dX7_check_0 rfl rfl ?_
  refine r_if_lt (q := 4) (tgt := 15) C dX7_check_1 (by decide) rfl (fun hc1 => ?_) (fun hc1 => ?_)
  · refine r_iconst (q := 16) C ((-1)) dX7_check_15 (by decide) rfl ?_
    exact r_iret C rfl (by decide) (by decide) dX7_check_16 ⟨rfl, hT, Fl.rfl'⟩
  · refine r_iload_n (q := 5) C 1 dX7_check_4 rfl rfl ?_
    refine r_aload_n (q := 6) C 0 dX7_check_5 rfl rfl ?_
    refine r_get (q := 9) (t := 100) C koX7 t0 5 (by decide) q130 rfl rfl dX7_check_6 rfl ?_
    refine r_callV (q := 12) (t := 103) (As := []) (st := [.int x]) C koX0 t6.1 (c_count t6 (by omega)) q453 q450 q451 q452 q6 rfl ⟨by decide, by decide⟩ (show (parseMethodDescriptor yX0_count.desc).map (fun d => d.parameters.length) = some 0 by decide +kernel) (by decide) (by decide) (by decide) (by decide) (Nat.le_of_ble_eq_true rfl) rfl dX7_check_9 rfl ?_
    rintro v9 w4 ⟨rfl, rfl⟩
    show V g k 3 w 0 0 (kQ g k (fun v w' => v = some (.int (-1)) ∧ TcAt g w' a0 tk gN rN tN fn wn gp by9 rD tD tV tT ∧ Fl w w') 0 0) 12 [(0, .ref a0), (1, .int x)] [.int (nI rN), .int x]
    refine r_icmp_le_f (q := 15) (tgt := 17) C dX7_check_12 (by decide) rfl (by rcases hx with q | q; exact absurd q hc1; exact Int32.not_le.mpr q) ?_
    refine r_iconst (q := 16) C ((-1)) dX7_check_15 (by decide) rfl ?_
    exact r_iret C rfl (by decide) (by decide) dX7_check_16 ⟨rfl, hT, Fl.rfl'⟩

set_option maxHeartbeats 4000000 in
set_option maxRecDepth 20000 in
theorem x_chk_0 {l : Launch} {g : cx_G} {w : wd_T} {c a0 tk gN rN tN : Nat} {fn wn : Nat → Nat} {gp by9 rD tD tV tT : Nat → Int32} (hT : TcAt g w a0 tk gN rN tN fn wn gp by9 rD tD tV tT) (hI : Iv9 c tk gN rN tN fn wn by9 tD tV tT) {fr : Nat} (hfr : fr ≤ rN) (hall : ∀ r, fr ≤ r → r < rN → okR by9 r) : Mt l g yX7_check cX7_check 3 (some .int) 6 0 0 w [.ref a0, .int (nI fr)] (fun v w' => v = some (.int (nI 0)) ∧ TcAt g w' a0 tk gN rN tN fn wn gp by9 rD tD tV tT ∧ Fl w w') := by
  refine mt_of RX7 "check" rfl rfl (by decide) (Nat.le_of_ble_eq_true rfl) [(0, .ref a0), (1, .int (nI fr))] rfl ?_
  intro k hkl C hin
  subst hkl
  have hTk := hT
  obtain ⟨a1, alb, alk, asp, a3, alr, asu, alv, af, asg, elb, elk, er, ab, gp9, T, t0, t1, t2, t3, t4, t5, t6, t7, t8⟩ := hTk
  obtain ⟨i0, i1, i2, i3, i4, i5, i6, i7, i8, i9, i10⟩ := id hI
  refine r_iload_n (q := 1) C 1 dX7_check_0 rfl rfl ?_
  refine r_if_lt_f (q := 4) (tgt := 15) C dX7_check_1 (by decide) rfl (nI_pos (by omega)) ?_
  refine r_iload_n (q := 5) C 1 dX7_check_4 rfl rfl ?_
  refine r_aload_n (q := 6) C 0 dX7_check_5 rfl rfl ?_
  refine r_get (q := 9) (t := 100) C koX7 t0 5 (by decide) q130 rfl rfl dX7_check_6 rfl ?_
  refine r_callV (q := 12) (t := 103) (As := []) (st := [.int (nI fr)]) C koX0 t6.1 (c_count t6 (by omega)) q453 q450 q451 q452 q6 rfl ⟨by decide, by decide⟩ (show (parseMethodDescriptor yX0_count.desc).map (fun d => d.parameters.length) = some 0 by decide +kernel) (by decide) (by decide) (by decide) (by decide) (Nat.le_of_ble_eq_true rfl) rfl dX7_check_9 rfl ?_
  rintro v9 w1 ⟨rfl, rfl⟩
  show V g k 3 w 0 0 (kQ g k (fun v w' => v = some (.int (nI 0)) ∧ TcAt g w' a0 tk gN rN tN fn wn gp by9 rD tD tV tT ∧ Fl w w') 0 0) 12 [(0, .ref a0), (1, .int (nI fr))] [.int (nI rN), .int (nI fr)]
  refine r_icmp_le_t (tgt := 17) C dX7_check_12 (by decide) ((nI_leI (a := fr) (b := rN) (by omega) (by omega)).mpr (by omega)) ?_
  refine r_aload_n (q := 18) C 0 dX7_check_17 rfl rfl ?_
  refine r_get (q := 21) (t := 100) C koX7 t0 5 (by decide) q130 rfl rfl dX7_check_18 rfl ?_
  refine r_iload_n (q := 22) C 1 dX7_check_21 rfl rfl ?_
  refine r_callV (q := 25) (t := 103) (As := [.int (nI fr)]) (st := []) C koX0 t6.1 (c_firstBroken t6 (by omega) hfr) q579 q576 q577 q578 q6 rfl ⟨by decide, by decide⟩ (show (parseMethodDescriptor yX0_firstBroken.desc).map (fun d => d.parameters.length) = some 1 by decide +kernel) (by decide) (by decide) (by decide) (by decide) (Nat.le_of_ble_eq_true rfl) rfl dX7_check_22 rfl ?_
  rintro v9 w5 ⟨⟨rfl, z1⟩ | ⟨r9, z1, z2, rfl, z3, z4⟩, hs5, ef⟩
  · show V g k 3 w5 0 0 (kQ g k (fun v w' => v = some (.int (nI 0)) ∧ TcAt g w' a0 tk gN rN tN fn wn gp by9 rD tD tV tT ∧ Fl w w') 0 0) 25 [(0, .ref a0), (1, .int (nI fr))] [.int (-1)]
    refine r_istore_n (q := 26) (lv' := [(2, .int (-1)), (0, .ref a0), (1, .int (nI fr))]) C dX7_check_25 (by decide) rfl rfl ?_
    refine r_iload_n (q := 27) C 0 dX7_check_26 rfl rfl ?_
    refine r_iconst (q := 28) C ((-1)) dX7_check_27 (by decide) rfl ?_
    refine r_icmp_ne_f (q := 31) (tgt := 35) C dX7_check_28 (by decide) rfl (rfl) ?_
    refine r_iconst (q := 32) C (nI 0) dX7_check_31 (by decide) rfl ?_
    refine r_goto (tgt := 38) C dX7_check_32 (by decide) ?_
    exact r_iret C rfl (by decide) (by decide) dX7_check_38 ⟨rfl, ⟨a1, alb, alk, asp, a3, alr, asu, alv, af, asg, elb, elk, er, ab, gp9, T, (ef 100 (by omega)).trans t0, (ef 102 (by omega)).trans t1, t2, t3.kept (by omega) (fun t ht => ef t (by omega)), t4.keptT (by omega) (ef 123 (by omega)) (ef 124 (by omega)) (fun t _ _ => ef t (by omega)), t5.kept (by omega) (fun t _ _ => ef t (by omega)), t6.frS ef hs5, t7.kept (ef 115 (by omega)) (ef 116 (by omega)), t8⟩, fun t ht => ef t (by omega)⟩
  · show V g k 3 w5 0 0 (kQ g k (fun v w' => v = some (.int (nI 0)) ∧ TcAt g w' a0 tk gN rN tN fn wn gp by9 rD tD tV tT ∧ Fl w w') 0 0) 25 [(0, .ref a0), (1, .int (nI fr))] [.int (nI r9)]
    exact absurd (hall r9 z1 z2) z3

set_option maxHeartbeats 4000000 in
set_option maxRecDepth 20000 in
theorem x_chk_r {l : Launch} {g : cx_G} {w : wd_T} {c a0 tk gN rN tN : Nat} {fn wn : Nat → Nat} {gp by9 rD tD tV tT : Nat → Int32} (hT : TcAt g w a0 tk gN rN tN fn wn gp by9 rD tD tV tT) (hI : Iv9 c tk gN rN tN fn wn by9 tD tV tT) {fr : Nat} (hfr : fr ≤ rN) {r : Nat} (h1 : fr ≤ r) (h2 : r < rN) (h3 : ¬ okR by9 r) (h4 : ∀ q, fr ≤ q → q < r → okR by9 q) : Mt l g yX7_check cX7_check 3 (some .int) 6 0 0 w [.ref a0, .int (nI fr)] (fun v w' => v = some (.int (nI (1 + r))) ∧ TcAt g w' a0 tk gN rN tN fn wn gp by9 rD tD tV tT ∧ Fl w w') := by
  refine mt_of RX7 "check" rfl rfl (by decide) (Nat.le_of_ble_eq_true rfl) [(0, .ref a0), (1, .int (nI fr))] rfl ?_
  intro k hkl C hin
  subst hkl
  have hTk := hT
  obtain ⟨a1, alb, alk, asp, a3, alr, asu, alv, af, asg, elb, elk, er, ab, gp9, T, t0, t1, t2, t3, t4, t5, t6, t7, t8⟩ := hTk
  obtain ⟨i0, i1, i2, i3, i4, i5, i6, i7, i8, i9, i10⟩ := id hI
  refine r_iload_n (q := 1) C 1 dX7_check_0 rfl rfl ?_
  refine r_if_lt_f (q := 4) (tgt := 15) C dX7_check_1 (by decide) rfl (nI_pos (by omega)) ?_
  refine r_iload_n (q := 5) C 1 dX7_check_4 rfl rfl ?_
  refine r_aload_n (q := 6) C 0 dX7_check_5 rfl rfl ?_
  refine r_get (q := 9) (t := 100) C koX7 t0 5 (by decide) q130 rfl rfl dX7_check_6 rfl ?_
  refine r_callV (q := 12) (t := 103) (As := []) (st := [.int (nI fr)]) C koX0 t6.1 (c_count t6 (by omega)) q453 q450 q451 q452 q6 rfl ⟨by decide, by decide⟩ (show (parseMethodDescriptor yX0_count.desc).map (fun d => d.parameters.length) = some 0 by decide +kernel) (by decide) (by decide) (by decide) (by decide) (Nat.le_of_ble_eq_true rfl) rfl dX7_check_9 rfl ?_
  rintro v9 w1 ⟨rfl, rfl⟩
  show V g k 3 w 0 0 (kQ g k (fun v w' => v = some (.int (nI (1 + r))) ∧ TcAt g w' a0 tk gN rN tN fn wn gp by9 rD tD tV tT ∧ Fl w w') 0 0) 12 [(0, .ref a0), (1, .int (nI fr))] [.int (nI rN), .int (nI fr)]
  refine r_icmp_le_t (tgt := 17) C dX7_check_12 (by decide) ((nI_leI (a := fr) (b := rN) (by omega) (by omega)).mpr (by omega)) ?_
  refine r_aload_n (q := 18) C 0 dX7_check_17 rfl rfl ?_
  refine r_get (q := 21) (t := 100) C koX7 t0 5 (by decide) q130 rfl rfl dX7_check_18 rfl ?_
  refine r_iload_n (q := 22) C 1 dX7_check_21 rfl rfl ?_
  refine r_callV (q := 25) (t := 103) (As := [.int (nI fr)]) (st := []) C koX0 t6.1 (c_firstBroken t6 (by omega) hfr) q579 q576 q577 q578 q6 rfl ⟨by decide, by decide⟩ (show (parseMethodDescriptor yX0_firstBroken.desc).map (fun d => d.parameters.length) = some 1 by decide +kernel) (by decide) (by decide) (by decide) (by decide) (Nat.le_of_ble_eq_true rfl) rfl dX7_check_22 rfl ?_
  rintro v9 w5 ⟨⟨rfl, z1⟩ | ⟨r9, z1, z2, rfl, z3, z4⟩, hs5, ef⟩
  · show V g k 3 w5 0 0 (kQ g k (fun v w' => v = some (.int (nI (1 + r))) ∧ TcAt g w' a0 tk gN rN tN fn wn gp by9 rD tD tV tT ∧ Fl w w') 0 0) 25 [(0, .ref a0), (1, .int (nI fr))] [.int (-1)]
    exact absurd (z1 r h1 h2) h3
  · show V g k 3 w5 0 0 (kQ g k (fun v w' => v = some (.int (nI (1 + r))) ∧ TcAt g w' a0 tk gN rN tN fn wn gp by9 rD tD tV tT ∧ Fl w w') 0 0) 25 [(0, .ref a0), (1, .int (nI fr))] [.int (nI r9)]
    have er9 : r9 = r := by
      rcases Nat.lt_trichotomy r9 r with z | z | z
      · exact absurd (h4 r9 z1 z) z3
      · exact z
      · exact absurd (z4 r h1 z) h3
    subst er9
    refine r_istore_n (q := 26) (lv' := [(2, .int (nI r9)), (0, .ref a0), (1, .int (nI fr))]) C dX7_check_25 (by decide) rfl rfl ?_
    refine r_iload_n (q := 27) C 0 dX7_check_26 rfl rfl ?_
    refine r_iconst (q := 28) C ((-1)) dX7_check_27 (by decide) rfl ?_
    refine r_icmp_ne_t (tgt := 35) C dX7_check_28 (by decide) (fun z => nI_pos (n := r9) (by omega) (by rw [z]; decide)) ?_
    refine r_iconst (q := 36) C (nI 1) dX7_check_35 (by decide) rfl ?_
    refine r_iload_n (q := 37) C 0 dX7_check_36 rfl rfl ?_
    refine r_iadd (q := 38) C dX7_check_37 rfl ?_
    refine r_ti (show ((nI 1) + (nI r9) : Int32) = nI (1 + r9) from nI_add 1 r9) ?_
    exact r_iret C rfl (by decide) (by decide) dX7_check_38 ⟨rfl, ⟨a1, alb, alk, asp, a3, alr, asu, alv, af, asg, elb, elk, er, ab, gp9, T, (ef 100 (by omega)).trans t0, (ef 102 (by omega)).trans t1, t2, t3.kept (by omega) (fun t ht => ef t (by omega)), t4.keptT (by omega) (ef 123 (by omega)) (ef 124 (by omega)) (fun t _ _ => ef t (by omega)), t5.kept (by omega) (fun t _ _ => ef t (by omega)), t6.frS ef hs5, t7.kept (ef 115 (by omega)) (ef 116 (by omega)), t8⟩, fun t ht => ef t (by omega)⟩

set_option maxHeartbeats 4000000 in
set_option maxRecDepth 20000 in
theorem x_root_n {l : Launch} {g : cx_G} {w : wd_T} {c a0 tk gN rN tN : Nat} {fn wn : Nat → Nat} {gp by9 rD tD tV tT : Nat → Int32} (hT : TcAt g w a0 tk gN rN tN fn wn gp by9 rD tD tV tT) (hI : Iv9 c tk gN rN tN fn wn by9 tD tV tT) {dy x : Int32} (hx : x < 0 ∨ nI 32 ≤ x) : Mt l g yX7_root cX7_root 3 (some .int) 6 0 0 w [.ref a0, .int dy, .int x] (fun v w' => v = some (.int (-1)) ∧ TcAt g w' a0 tk gN rN tN fn wn gp by9 rD tD tV tT ∧ Fl w w') := by
  refine mt_of RX7 "root" rfl rfl (by decide) (Nat.le_of_ble_eq_true rfl) [(0, .ref a0), (1, .int dy), (2, .int x)] rfl ?_
  intro k hkl C hin
  subst hkl
  have hTk := hT
  obtain ⟨a1, alb, alk, asp, a3, alr, asu, alv, af, asg, elb, elk, er, ab, gp9, T, t0, t1, t2, t3, t4, t5, t6, t7, t8⟩ := hTk
  obtain ⟨i0, i1, i2, i3, i4, i5, i6, i7, i8, i9, i10⟩ := id hI
  refine r_aload_n (q := 1) C 0 dX7_root_0 rfl rfl ?_
  refine r_get (q := 4) (t := 100) C koX7 t0 5 (by decide) q130 rfl rfl dX7_root_1 rfl ?_
  refine r_iload_n (q := 5) C 1 dX7_root_4 rfl rfl ?_
  refine r_iload_n (q := 6) C 2 dX7_root_5 rfl rfl ?_
  refine r_callV (q := 9) (t := 103) (As := [.int dy, .int x]) (st := []) C koX0 t6.1 (c_root_n t6 (by omega) hx) q591 q588 q589 q590 q6 rfl ⟨by decide, by decide⟩ (show (parseMethodDescriptor yX0_rootByte.desc).map (fun d => d.parameters.length) = some 2 by decide +kernel) (by decide) (by decide) (by decide) (by decide) (Nat.le_of_ble_eq_true rfl) rfl dX7_root_6 rfl ?_
  rintro v9 w5 ⟨rfl, hc5, ef⟩
  show V g k 3 w5 0 0 (kQ g k (fun v w' => v = some (.int (-1)) ∧ TcAt g w' a0 tk gN rN tN fn wn gp by9 rD tD tV tT ∧ Fl w w') 0 0) 9 [(0, .ref a0), (1, .int dy), (2, .int x)] [.int (-1)]
  exact r_iret C rfl (by decide) (by decide) dX7_root_9 ⟨rfl, ⟨a1, alb, alk, asp, a3, alr, asu, alv, af, asg, elb, elk, er, ab, gp9, T, (ef 100 (by omega)).trans t0, (ef 102 (by omega)).trans t1, t2, t3.kept (by omega) (fun t ht => ef t (by omega)), t4.keptT (by omega) (ef 123 (by omega)) (ef 124 (by omega)) (fun t _ _ => ef t (by omega)), t5.kept (by omega) (fun t _ _ => ef t (by omega)), hc5, t7.kept (ef 115 (by omega)) (ef 116 (by omega)), t8⟩, fun t ht => ef t (by omega)⟩

set_option maxHeartbeats 4000000 in
set_option maxRecDepth 20000 in
theorem x_root_y {l : Launch} {g : cx_G} {w : wd_T} {c a0 tk gN rN tN : Nat} {fn wn : Nat → Nat} {gp by9 rD tD tV tT : Nat → Int32} (hT : TcAt g w a0 tk gN rN tN fn wn gp by9 rD tD tV tT) (hI : Iv9 c tk gN rN tN fn wn by9 tD tV tT) {dy : Int32} {i : Nat} (hi : i < 32) : Mt l g yX7_root cX7_root 3 (some .int) 6 0 0 w [.ref a0, .int dy, .int (nI i)] (fun v w' => v = some (.int (if lfN rD dy rN = 0 then -1 else rt9 (lfN rD dy rN) (lfN rD dy rN) (lfL by9 rD dy rN) i &&& nI 255)) ∧ TcAt g w' a0 tk gN rN tN fn wn gp by9 rD tD tV tT ∧ Fl w w') := by
  refine mt_of RX7 "root" rfl rfl (by decide) (Nat.le_of_ble_eq_true rfl) [(0, .ref a0), (1, .int dy), (2, .int (nI i))] rfl ?_
  intro k hkl C hin
  subst hkl
  have hTk := hT
  obtain ⟨a1, alb, alk, asp, a3, alr, asu, alv, af, asg, elb, elk, er, ab, gp9, T, t0, t1, t2, t3, t4, t5, t6, t7, t8⟩ := hTk
  obtain ⟨i0, i1, i2, i3, i4, i5, i6, i7, i8, i9, i10⟩ := id hI
  refine r_aload_n (q := 1) C 0 dX7_root_0 rfl rfl ?_
  refine r_get (q := 4) (t := 100) C koX7 t0 5 (by decide) q130 rfl rfl dX7_root_1 rfl ?_
  refine r_iload_n (q := 5) C 1 dX7_root_4 rfl rfl ?_
  refine r_iload_n (q := 6) C 2 dX7_root_5 rfl rfl ?_
  refine r_callV (q := 9) (t := 103) (As := [.int dy, .int (nI i)]) (st := []) C koX0 t6.1 (c_root_y t6 (by omega) i8 hi) q591 q588 q589 q590 q6 rfl ⟨by decide, by decide⟩ (show (parseMethodDescriptor yX0_rootByte.desc).map (fun d => d.parameters.length) = some 2 by decide +kernel) (by decide) (by decide) (by decide) (by decide) (Nat.le_of_ble_eq_true rfl) rfl dX7_root_6 rfl ?_
  rintro v9 w5 ⟨rfl, hc5, ef⟩
  show V g k 3 w5 0 0 (kQ g k (fun v w' => v = some (.int (if lfN rD dy rN = 0 then -1 else rt9 (lfN rD dy rN) (lfN rD dy rN) (lfL by9 rD dy rN) i &&& nI 255)) ∧ TcAt g w' a0 tk gN rN tN fn wn gp by9 rD tD tV tT ∧ Fl w w') 0 0) 9 [(0, .ref a0), (1, .int dy), (2, .int (nI i))] [.int (if lfN rD dy rN = 0 then -1 else rt9 (lfN rD dy rN) (lfN rD dy rN) (lfL by9 rD dy rN) i &&& nI 255)]
  exact r_iret C rfl (by decide) (by decide) dX7_root_9 ⟨rfl, ⟨a1, alb, alk, asp, a3, alr, asu, alv, af, asg, elb, elk, er, ab, gp9, T, (ef 100 (by omega)).trans t0, (ef 102 (by omega)).trans t1, t2, t3.kept (by omega) (fun t ht => ef t (by omega)), t4.keptT (by omega) (ef 123 (by omega)) (ef 124 (by omega)) (fun t _ _ => ef t (by omega)), t5.kept (by omega) (fun t _ _ => ef t (by omega)), hc5, t7.kept (ef 115 (by omega)) (ef 116 (by omega)), t8⟩, fun t ht => ef t (by omega)⟩

set_option maxHeartbeats 4000000 in
set_option maxRecDepth 20000 in
theorem x_fol_n {l : Launch} {g : cx_G} {w : wd_T} {c a0 tk gN rN tN : Nat} {fn wn : Nat → Nat} {gp by9 rD tD tV tT : Nat → Int32} (hT : TcAt g w a0 tk gN rN tN fn wn gp by9 rD tD tV tT) (hI : Iv9 c tk gN rN tN fn wn by9 tD tV tT) {dy vh : Int32} {ta : Int64} (hb : ¬ ((¬ dy < 0) ∧ (¬ nI 100000 < dy) ∧ ok9 (nI 1) vh.toInt64 ∧ ok9 (nI 4) ta)) : Mt l g yX7_follows cX7_follows 5 (some .boolean) 8 2 463 w [.ref a0, .int dy, .int vh, .long ta] (fun v w' => v = some (.int (nI 0)) ∧ TcAt g w' a0 tk gN rN tN fn wn gp by9 rD tD tV tT ∧ Fl w w') := by
  refine mt_of RX7 "follows" rfl rfl (by decide) (Nat.le_of_ble_eq_true rfl) [(0, .ref a0), (1, .int dy), (2, .int vh), (3, .long ta)] rfl ?_
  intro k hkl C hin
  subst hkl
  have hTk := hT
  obtain ⟨a1, alb, alk, asp, a3, alr, asu, alv, af, asg, elb, elk, er, ab, gp9, T, t0, t1, t2, t3, t4, t5, t6, t7, t8⟩ := hTk
  obtain ⟨i0, i1, i2, i3, i4, i5, i6, i7, i8, i9, i10⟩ := id hI
  refine r_iload_n (q := 1) C 1 dX7_follows_0 rfl rfl ?_
  refine r_if_lt (q := 4) (tgt := 27) C dX7_follows_1 (by decide) rfl (fun hc1 => ?_) (fun hc1 => ?_)
  · refine r_iconst (q := 28) C (nI 0) dX7_follows_27 (by decide) rfl ?_
    exact r_zret C rfl rfl (by decide) (by decide) dX7_follows_28 ⟨rfl, hT, Fl.rfl'⟩
  · refine r_iload_n (q := 5) C 1 dX7_follows_4 rfl rfl ?_
    refine r_ldc (q := 7) (v := nI 100000) C dX7_follows_5 q151 rfl ?_
    refine r_icmp_gt (q := 10) (tgt := 27) C dX7_follows_7 (by decide) rfl (fun hc4 => ?_) (fun hc4 => ?_)
    · refine r_iconst (q := 28) C (nI 0) dX7_follows_27 (by decide) rfl ?_
      exact r_zret C rfl rfl (by decide) (by decide) dX7_follows_28 ⟨rfl, hT, Fl.rfl'⟩
    · refine r_iconst (q := 11) C (nI 1) dX7_follows_10 (by decide) rfl ?_
      refine r_iload_n (q := 12) C 2 dX7_follows_11 rfl rfl ?_
      refine r_i2l (q := 13) C dX7_follows_12 rfl ?_
      by_cases uu1 : ok9 (nI 1) vh.toInt64
      · refine r_callS (q := 16) (As := [.int (nI 1), .long vh.toInt64]) (st := []) C (c_fits_ok uu1) q154 q152 q153 q1 ⟨by decide, by decide⟩ (show (parseMethodDescriptor yX7_fits.desc).map (fun d => d.parameters.length) = some 2 by decide +kernel) (by decide) (by decide) (by decide) (by decide) (Nat.le_of_ble_eq_true rfl) rfl dX7_follows_13 rfl ?_
        rintro v9 w7 ⟨rfl, rfl⟩
        show V g k 5 w 0 0 (kQ g k (fun v w' => v = some (.int (nI 0)) ∧ TcAt g w' a0 tk gN rN tN fn wn gp by9 rD tD tV tT ∧ Fl w w') 2 463) 16 [(0, .ref a0), (1, .int dy), (2, .int vh), (3, .long ta)] [.int (nI 1)]
        refine r_if_eq_f (q := 19) (tgt := 27) C dX7_follows_16 (by decide) rfl (by decide) ?_
        refine r_iconst (q := 20) C (nI 4) dX7_follows_19 (by decide) rfl ?_
        refine r_lload_n (q := 21) C 3 dX7_follows_20 rfl rfl ?_
        by_cases uu4 : ok9 (nI 4) ta
        · refine r_callS (q := 24) (As := [.int (nI 4), .long ta]) (st := []) C (c_fits_ok uu4) q154 q152 q153 q1 ⟨by decide, by decide⟩ (show (parseMethodDescriptor yX7_fits.desc).map (fun d => d.parameters.length) = some 2 by decide +kernel) (by decide) (by decide) (by decide) (by decide) (Nat.le_of_ble_eq_true rfl) rfl dX7_follows_21 rfl ?_
          rintro v9 w8 ⟨rfl, rfl⟩
          show V g k 5 w 0 0 (kQ g k (fun v w' => v = some (.int (nI 0)) ∧ TcAt g w' a0 tk gN rN tN fn wn gp by9 rD tD tV tT ∧ Fl w w') 2 463) 24 [(0, .ref a0), (1, .int dy), (2, .int vh), (3, .long ta)] [.int (nI 1)]
          exact absurd ⟨hc1, hc4, uu1, uu4⟩ hb
        · refine r_callS (q := 24) (As := [.int (nI 4), .long ta]) (st := []) C (c_fits_n uu4) q154 q152 q153 q1 ⟨by decide, by decide⟩ (show (parseMethodDescriptor yX7_fits.desc).map (fun d => d.parameters.length) = some 2 by decide +kernel) (by decide) (by decide) (by decide) (by decide) (Nat.le_of_ble_eq_true rfl) rfl dX7_follows_21 rfl ?_
          rintro v9 w9 ⟨rfl, rfl⟩
          show V g k 5 w 0 0 (kQ g k (fun v w' => v = some (.int (nI 0)) ∧ TcAt g w' a0 tk gN rN tN fn wn gp by9 rD tD tV tT ∧ Fl w w') 2 463) 24 [(0, .ref a0), (1, .int dy), (2, .int vh), (3, .long ta)] [.int (nI 0)]
          refine r_if_ne_f (q := 27) (tgt := 29) C dX7_follows_24 (by decide) rfl (by decide) ?_
          refine r_iconst (q := 28) C (nI 0) dX7_follows_27 (by decide) rfl ?_
          exact r_zret C rfl rfl (by decide) (by decide) dX7_follows_28 ⟨rfl, hT, Fl.rfl'⟩
      · refine r_callS (q := 16) (As := [.int (nI 1), .long vh.toInt64]) (st := []) C (c_fits_n uu1) q154 q152 q153 q1 ⟨by decide, by decide⟩ (show (parseMethodDescriptor yX7_fits.desc).map (fun d => d.parameters.length) = some 2 by decide +kernel) (by decide) (by decide) (by decide) (by decide) (Nat.le_of_ble_eq_true rfl) rfl dX7_follows_13 rfl ?_
        rintro v9 w10 ⟨rfl, rfl⟩
        show V g k 5 w 0 0 (kQ g k (fun v w' => v = some (.int (nI 0)) ∧ TcAt g w' a0 tk gN rN tN fn wn gp by9 rD tD tV tT ∧ Fl w w') 2 463) 16 [(0, .ref a0), (1, .int dy), (2, .int vh), (3, .long ta)] [.int (nI 0)]
        refine r_if_eq_t (tgt := 27) C dX7_follows_16 (by decide) (by decide) ?_
        refine r_iconst (q := 28) C (nI 0) dX7_follows_27 (by decide) rfl ?_
        exact r_zret C rfl rfl (by decide) (by decide) dX7_follows_28 ⟨rfl, hT, Fl.rfl'⟩

set_option maxHeartbeats 4000000 in
set_option maxRecDepth 20000 in
theorem x_fol_y {l : Launch} {g : cx_G} {w : wd_T} {c a0 tk gN rN tN : Nat} {fn wn : Nat → Nat} {gp by9 rD tD tV tT : Nat → Int32} (hT : TcAt g w a0 tk gN rN tN fn wn gp by9 rD tD tV tT) (hI : Iv9 c tk gN rN tN fn wn by9 tD tV tT) {d9 vh ta : Nat} (hd : d9 ≤ 100000) (hv : vh ≤ 99) (ht : ta ≤ 1000000000) {k9 : Nat} (h9 : lu9 tD tV (nI d9) (nI vh) tN = some k9) (hd9 : tD k9 = nI d9) : Mt l g yX7_follows cX7_follows 5 (some .boolean) 8 2 463 w [.ref a0, .int (nI d9), .int (nI vh), .long (lN ta)] (fun v w' => v = some (.int (nI 1)) ∧ TcAt g w' a0 tk gN rN tN fn wn gp by9 rD tD tV (upd tT k9 (nI ta)) ∧ Fl w w') := by
  refine mt_of RX7 "follows" rfl rfl (by decide) (Nat.le_of_ble_eq_true rfl) [(0, .ref a0), (1, .int (nI d9)), (2, .int (nI vh)), (3, .long (lN ta))] rfl ?_
  intro k hkl C hin
  subst hkl
  have hTk := hT
  obtain ⟨a1, alb, alk, asp, a3, alr, asu, alv, af, asg, elb, elk, er, ab, gp9, T, t0, t1, t2, t3, t4, t5, t6, t7, t8⟩ := hTk
  obtain ⟨i0, i1, i2, i3, i4, i5, i6, i7, i8, i9, i10⟩ := id hI
  refine r_iload_n (q := 1) C 1 dX7_follows_0 rfl rfl ?_
  refine r_if_lt_f (q := 4) (tgt := 27) C dX7_follows_1 (by decide) rfl (nI_pos (by omega)) ?_
  refine r_iload_n (q := 5) C 1 dX7_follows_4 rfl rfl ?_
  refine r_ldc (q := 7) (v := nI 100000) C dX7_follows_5 q151 rfl ?_
  refine r_icmp_gt_f (q := 10) (tgt := 27) C dX7_follows_7 (by decide) rfl (fun z => absurd ((nI_ltI (a := 100000) (b := d9) (by omega) (by omega)).mp z) (by omega)) ?_
  refine r_iconst (q := 11) C (nI 1) dX7_follows_10 (by decide) rfl ?_
  refine r_iload_n (q := 12) C 2 dX7_follows_11 rfl rfl ?_
  refine r_i2l (q := 13) C dX7_follows_12 rfl ?_
  refine r_tl (show ((nI vh).toInt64 : Int64) = lN vh from nI_l (by omega)) ?_
  refine r_callS (q := 16) (As := [.int (nI 1), .long (lN vh)]) (st := []) C (c_fits_y (f := 1) (n := vh) (Or.inl rfl) hv) q154 q152 q153 q1 ⟨by decide, by decide⟩ (show (parseMethodDescriptor yX7_fits.desc).map (fun d => d.parameters.length) = some 2 by decide +kernel) (by decide) (by decide) (by decide) (by decide) (Nat.le_of_ble_eq_true rfl) rfl dX7_follows_13 rfl ?_
  rintro v9 w1 ⟨rfl, rfl⟩
  show V g k 5 w 0 0 (kQ g k (fun v w' => v = some (.int (nI 1)) ∧ TcAt g w' a0 tk gN rN tN fn wn gp by9 rD tD tV (upd tT k9 (nI ta)) ∧ Fl w w') 2 463) 16 [(0, .ref a0), (1, .int (nI d9)), (2, .int (nI vh)), (3, .long (lN ta))] [.int (nI 1)]
  refine r_if_eq_f (q := 19) (tgt := 27) C dX7_follows_16 (by decide) rfl (by decide) ?_
  refine r_iconst (q := 20) C (nI 4) dX7_follows_19 (by decide) rfl ?_
  refine r_lload_n (q := 21) C 3 dX7_follows_20 rfl rfl ?_
  refine r_callS (q := 24) (As := [.int (nI 4), .long (lN ta)]) (st := []) C (c_fits_y (f := 4) (n := ta) (Or.inr (Or.inr (Or.inr (Or.inl rfl)))) ht) q154 q152 q153 q1 ⟨by decide, by decide⟩ (show (parseMethodDescriptor yX7_fits.desc).map (fun d => d.parameters.length) = some 2 by decide +kernel) (by decide) (by decide) (by decide) (by decide) (Nat.le_of_ble_eq_true rfl) rfl dX7_follows_21 rfl ?_
  rintro v9 w2 ⟨rfl, rfl⟩
  show V g k 5 w 0 0 (kQ g k (fun v w' => v = some (.int (nI 1)) ∧ TcAt g w' a0 tk gN rN tN fn wn gp by9 rD tD tV (upd tT k9 (nI ta)) ∧ Fl w w') 2 463) 24 [(0, .ref a0), (1, .int (nI d9)), (2, .int (nI vh)), (3, .long (lN ta))] [.int (nI 1)]
  refine r_if_ne_t (tgt := 29) C dX7_follows_24 (by decide) (by decide) ?_
  refine r_aload_n (q := 30) C 0 dX7_follows_29 rfl rfl ?_
  refine r_get (q := 33) (t := 100) C koX7 t0 0 (by decide) q125 rfl rfl dX7_follows_30 rfl ?_
  refine r_iload_n (q := 34) C 1 dX7_follows_33 rfl rfl ?_
  refine r_iload_n (q := 35) C 2 dX7_follows_34 rfl rfl ?_
  refine r_lload_n (q := 36) C 3 dX7_follows_35 rfl rfl ?_
  refine r_tl (show (lN ta : Int64) = (nI ta).toInt64 from (nI_l (by omega)).symm) ?_
  refine r_callV (q := 39) (t := 101) (As := [.int (nI d9), .int (nI vh), .long ((nI ta).toInt64)]) (st := []) C koX5 t3.1 (c_tell_y t3 (by omega) h9 hd9) q167 q164 q165 q166 q2 rfl ⟨by decide, by decide⟩ (show (parseMethodDescriptor yX5_tell.desc).map (fun d => d.parameters.length) = some 3 by decide +kernel) (by decide) (by decide) (by decide) (by decide) (Nat.le_of_ble_eq_true rfl) rfl dX7_follows_36 rfl ?_
  rintro v9 w5 ⟨rfl, ⟨el5, hb5⟩, ef⟩
  show V g k 5 w5 2 463 (kQ g k (fun v w' => v = some (.int (nI 1)) ∧ TcAt g w' a0 tk gN rN tN fn wn gp by9 rD tD tV (upd tT k9 (nI ta)) ∧ Fl w w') 2 463) 39 [(0, .ref a0), (1, .int (nI d9)), (2, .int (nI vh)), (3, .long (lN ta))] [.int (nI 1)]
  have k5 : ∀ t, (t ≠ 101 ∧ (t < 120 ∨ 123 ≤ t) ∧ (t < 3000 ∨ 3200 < t)) → w5 t = w t := fun t h => ef t h.1 h.2.1 h.2.2
  exact r_zret C rfl rfl (by decide) (by decide) dX7_follows_39 ⟨rfl, ⟨a1, alb, alk, asp, a3, alr, asu, alv, af, asg, el5, elk, er, ab, gp9, T, (k5 100 (by omega)).trans t0, (k5 102 (by omega)).trans t1, t2, hb5, t4.keptT (by omega) (k5 123 (by omega)) (k5 124 (by omega)) (fun t _ _ => k5 t (by omega)), t5.kept (by omega) (fun t _ _ => k5 t (by omega)), t6.keptC (by omega) (fun t ht => k5 t (by omega)), t7.kept (k5 115 (by omega)) (k5 116 (by omega)), t8⟩, fun t ht => k5 t (by omega)⟩

set_option maxHeartbeats 4000000 in
set_option maxRecDepth 20000 in
theorem x_fol_a {l : Launch} {g : cx_G} {w : wd_T} {c a0 tk gN rN tN : Nat} {fn wn : Nat → Nat} {gp by9 rD tD tV tT : Nat → Int32} (hT : TcAt g w a0 tk gN rN tN fn wn gp by9 rD tD tV tT) (hI : Iv9 c tk gN rN tN fn wn by9 tD tV tT) {d9 vh ta : Nat} (hd : d9 ≤ 100000) (hv : vh ≤ 99) (ht : ta ≤ 1000000000) (h9 : ∀ k, lu9 tD tV (nI d9) (nI vh) tN = some k → tD k ≠ nI d9) : Mt l g yX7_follows cX7_follows 5 (some .boolean) 8 2 463 w [.ref a0, .int (nI d9), .int (nI vh), .long (lN ta)] (fun v w' => v = some (.int (nI 1)) ∧ TcAt g w' a0 tk gN rN (tN + 1) fn wn gp by9 rD (upd tD tN (nI d9)) (upd tV tN (nI vh)) (upd tT tN (nI ta)) ∧ Fl w w') := by
  refine mt_of RX7 "follows" rfl rfl (by decide) (Nat.le_of_ble_eq_true rfl) [(0, .ref a0), (1, .int (nI d9)), (2, .int (nI vh)), (3, .long (lN ta))] rfl ?_
  intro k hkl C hin
  subst hkl
  have hTk := hT
  obtain ⟨a1, alb, alk, asp, a3, alr, asu, alv, af, asg, elb, elk, er, ab, gp9, T, t0, t1, t2, t3, t4, t5, t6, t7, t8⟩ := hTk
  obtain ⟨i0, i1, i2, i3, i4, i5, i6, i7, i8, i9, i10⟩ := id hI
  refine r_iload_n (q := 1) C 1 dX7_follows_0 rfl rfl ?_
  refine r_if_lt_f (q := 4) (tgt := 27) C dX7_follows_1 (by decide) rfl (nI_pos (by omega)) ?_
  refine r_iload_n (q := 5) C 1 dX7_follows_4 rfl rfl ?_
  refine r_ldc (q := 7) (v := nI 100000) C dX7_follows_5 q151 rfl ?_
  refine r_icmp_gt_f (q := 10) (tgt := 27) C dX7_follows_7 (by decide) rfl (fun z => absurd ((nI_ltI (a := 100000) (b := d9) (by omega) (by omega)).mp z) (by omega)) ?_
  refine r_iconst (q := 11) C (nI 1) dX7_follows_10 (by decide) rfl ?_
  refine r_iload_n (q := 12) C 2 dX7_follows_11 rfl rfl ?_
  refine r_i2l (q := 13) C dX7_follows_12 rfl ?_
  refine r_tl (show ((nI vh).toInt64 : Int64) = lN vh from nI_l (by omega)) ?_
  refine r_callS (q := 16) (As := [.int (nI 1), .long (lN vh)]) (st := []) C (c_fits_y (f := 1) (n := vh) (Or.inl rfl) hv) q154 q152 q153 q1 ⟨by decide, by decide⟩ (show (parseMethodDescriptor yX7_fits.desc).map (fun d => d.parameters.length) = some 2 by decide +kernel) (by decide) (by decide) (by decide) (by decide) (Nat.le_of_ble_eq_true rfl) rfl dX7_follows_13 rfl ?_
  rintro v9 w1 ⟨rfl, rfl⟩
  show V g k 5 w 0 0 (kQ g k (fun v w' => v = some (.int (nI 1)) ∧ TcAt g w' a0 tk gN rN (tN + 1) fn wn gp by9 rD (upd tD tN (nI d9)) (upd tV tN (nI vh)) (upd tT tN (nI ta)) ∧ Fl w w') 2 463) 16 [(0, .ref a0), (1, .int (nI d9)), (2, .int (nI vh)), (3, .long (lN ta))] [.int (nI 1)]
  refine r_if_eq_f (q := 19) (tgt := 27) C dX7_follows_16 (by decide) rfl (by decide) ?_
  refine r_iconst (q := 20) C (nI 4) dX7_follows_19 (by decide) rfl ?_
  refine r_lload_n (q := 21) C 3 dX7_follows_20 rfl rfl ?_
  refine r_callS (q := 24) (As := [.int (nI 4), .long (lN ta)]) (st := []) C (c_fits_y (f := 4) (n := ta) (Or.inr (Or.inr (Or.inr (Or.inl rfl)))) ht) q154 q152 q153 q1 ⟨by decide, by decide⟩ (show (parseMethodDescriptor yX7_fits.desc).map (fun d => d.parameters.length) = some 2 by decide +kernel) (by decide) (by decide) (by decide) (by decide) (Nat.le_of_ble_eq_true rfl) rfl dX7_follows_21 rfl ?_
  rintro v9 w2 ⟨rfl, rfl⟩
  show V g k 5 w 0 0 (kQ g k (fun v w' => v = some (.int (nI 1)) ∧ TcAt g w' a0 tk gN rN (tN + 1) fn wn gp by9 rD (upd tD tN (nI d9)) (upd tV tN (nI vh)) (upd tT tN (nI ta)) ∧ Fl w w') 2 463) 24 [(0, .ref a0), (1, .int (nI d9)), (2, .int (nI vh)), (3, .long (lN ta))] [.int (nI 1)]
  refine r_if_ne_t (tgt := 29) C dX7_follows_24 (by decide) (by decide) ?_
  refine r_aload_n (q := 30) C 0 dX7_follows_29 rfl rfl ?_
  refine r_get (q := 33) (t := 100) C koX7 t0 0 (by decide) q125 rfl rfl dX7_follows_30 rfl ?_
  refine r_iload_n (q := 34) C 1 dX7_follows_33 rfl rfl ?_
  refine r_iload_n (q := 35) C 2 dX7_follows_34 rfl rfl ?_
  refine r_lload_n (q := 36) C 3 dX7_follows_35 rfl rfl ?_
  refine r_tl (show (lN ta : Int64) = (nI ta).toInt64 from (nI_l (by omega)).symm) ?_
  refine r_callV (q := 39) (t := 101) (As := [.int (nI d9), .int (nI vh), .long ((nI ta).toInt64)]) (st := []) C koX5 t3.1 (c_tell_n t3 (by omega) h9) q167 q164 q165 q166 q2 rfl ⟨by decide, by decide⟩ (show (parseMethodDescriptor yX5_tell.desc).map (fun d => d.parameters.length) = some 3 by decide +kernel) (by decide) (by decide) (by decide) (by decide) (Nat.le_of_ble_eq_true rfl) rfl dX7_follows_36 rfl ?_
  rintro v9 w5 ⟨rfl, ⟨el5, hb5⟩, ef⟩
  show V g k 5 w5 2 463 (kQ g k (fun v w' => v = some (.int (nI 1)) ∧ TcAt g w' a0 tk gN rN (tN + 1) fn wn gp by9 rD (upd tD tN (nI d9)) (upd tV tN (nI vh)) (upd tT tN (nI ta)) ∧ Fl w w') 2 463) 39 [(0, .ref a0), (1, .int (nI d9)), (2, .int (nI vh)), (3, .long (lN ta))] [.int (nI 1)]
  have k5 : ∀ t, (t ≠ 101 ∧ (t < 120 ∨ 123 ≤ t) ∧ (t < 3000 ∨ 3200 < t)) → w5 t = w t := fun t h => ef t h.1 h.2.1 h.2.2
  exact r_zret C rfl rfl (by decide) (by decide) dX7_follows_39 ⟨rfl, ⟨a1, alb, alk, asp, a3, alr, asu, alv, af, asg, el5, elk, er, ab, gp9, T, (k5 100 (by omega)).trans t0, (k5 102 (by omega)).trans t1, t2, hb5, t4.keptT (by omega) (k5 123 (by omega)) (k5 124 (by omega)) (fun t _ _ => k5 t (by omega)), t5.kept (by omega) (fun t _ _ => k5 t (by omega)), t6.keptC (by omega) (fun t ht => k5 t (by omega)), t7.kept (k5 115 (by omega)) (k5 116 (by omega)), t8⟩, fun t ht => k5 t (by omega)⟩
