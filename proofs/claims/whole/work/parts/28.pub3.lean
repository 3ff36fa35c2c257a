/-! TicketChain: voids, correct -/
theorem put9 {ff : Nat → Int64} {fn : Nat → Nat} {k i x : Nat} (hi : ¬ i = 5) (h : ∀ j, j < 9 → ff j = lN (fv9 fn k j)) (hle : upN fn (9 * k + i) x (9 * k + 4) ≤ upN fn (9 * k + i) x (9 * k + 3)) : ∀ j, j < 9 → vp_updL (vp_updL ff i (lN x)) 5 (vp_updL ff i (lN x) 3 - vp_updL ff i (lN x) 4) j = lN (fv9 (upN fn (9 * k + i) x) k j) := by
  have e : ∀ j, j < 9 → ¬ j = 5 → vp_updL ff i (lN x) j = lN (upN fn (9 * k + i) x (9 * k + j)) := by
    intro j hj h5
    unfold vp_updL upN
    by_cases z : j = i
    · rw [if_pos z, if_pos (by omega)]
    · rw [if_neg z, if_neg (by omega), h j hj]
      unfold fv9
      rw [if_neg h5]
  intro j hj
  by_cases z : j = 5
  · subst z
    have e3 := e 3 (by decide) (by decide)
    have e4 := e 4 (by decide) (by decide)
    show (if (5 : Nat) = 5 then vp_updL ff i (lN x) 3 - vp_updL ff i (lN x) 4 else vp_updL ff i (lN x) 5) = _
    rw [if_pos rfl, e3, e4, lN_sub hle]
    rfl
  · show (if j = 5 then vp_updL ff i (lN x) 3 - vp_updL ff i (lN x) 4 else vp_updL ff i (lN x) j) = _
    rw [if_neg z, e j hj z]
    unfold fv9
    rw [if_neg z]
theorem upN_ne {f : Nat → Nat} {a b p : Nat} (h : p ≠ a) : upN f a b p = f p := if_neg h
theorem upN_eq {f : Nat → Nat} {a b : Nat} : upN f a b a = b := if_pos rfl
theorem fv9_n {fn : Nat → Nat} {k j : Nat} (h : ¬ j = 5) : fv9 fn k j = fn (9 * k + j) := if_neg h
/-- other tickets keep their fields -/
theorem fv9_o {fn : Nat → Nat} {k k8 i x j : Nat} (h : ¬ k8 = k) (hi : i < 9) (hj : j < 9) : fv9 (upN fn (9 * k + i) x) k8 j = fv9 fn k8 j := by
  unfold fv9
  rw [upN_ne (by omega), upN_ne (by omega), upN_ne (by omega)]
theorem gr_9 {ff : Nat → Int64} {fn : Nat → Nat} {k f n : Nat} (hf : cb9 f) (h : ∀ j, j < 9 → ff j = lN (fv9 fn k j)) : gross9 (nI f) (lN n) ff = lN (upN fn (9 * k + f) n (9 * k + 3)) ∧ tare9 (nI f) (lN n) ff = lN (upN fn (9 * k + f) n (9 * k + 4)) := by
  unfold gross9 tare9
  rw [h 3 (by decide), h 4 (by decide), fv9_n (by decide), fv9_n (by decide)]
  rcases hf with rfl | rfl | rfl | rfl | rfl | rfl
  · rw [if_neg (by decide), if_neg (by decide), upN_ne (by omega), upN_ne (by omega)]; exact ⟨rfl, rfl⟩
  · rw [if_neg (by decide), if_neg (by decide), upN_ne (by omega), upN_ne (by omega)]; exact ⟨rfl, rfl⟩
  · rw [if_pos rfl, if_neg (by decide), upN_eq, upN_ne (by omega)]; exact ⟨rfl, rfl⟩
  · rw [if_neg (by decide), if_pos rfl, upN_eq, upN_ne (by omega)]; exact ⟨rfl, rfl⟩
  · rw [if_neg (by decide), if_neg (by decide), upN_ne (by omega), upN_ne (by omega)]; exact ⟨rfl, rfl⟩
  · rw [if_neg (by decide), if_neg (by decide), upN_ne (by omega), upN_ne (by omega)]; exact ⟨rfl, rfl⟩
theorem cb9_lt {f : Nat} (h : cb9 f) : f < 9 ∧ ¬ f = 5 ∧ ¬ f = 0 ∧ ¬ f = 8 := by unfold cb9 at h; omega
set_option maxHeartbeats 4000000 in
set_option maxRecDepth 20000 in
theorem x_vd_n {l : Launch} {g : cx_G} {w : wd_T} {c a0 tk gN rN tN : Nat} {fn wn : Nat → Nat} {gp by9 rD tD tV tT : Nat → Int32} (hT : TcAt g w a0 tk gN rN tN fn wn gp by9 rD tD tV tT) (hI : Iv9 c tk gN rN tN fn wn by9 tD tV tT) {x : Int32} (hx : x < 0 ∨ nI tk ≤ x) {y : Int32} : Mt l g yX7_voids cX7_voids 4 (some .int) 8 3 536 w [.ref a0, .int x, .int y] (fun v w' => v = some (.int (-1)) ∧ TcAt g w' a0 tk gN rN tN fn wn gp by9 rD tD tV tT ∧ Fl w w') := by
  refine mt_of RX7 "voids" rfl rfl (by decide) (Nat.le_of_ble_eq_true rfl) [(0, .ref a0), (1, .int x), (2, .int y)] rfl ?_
  intro k hkl C hin
  subst hkl
  have hTk := hT
  obtain ⟨a1, alb, alk, asp, a3, alr, asu, alv, af, asg, elb, elk, er, ab, gp9, T, t0, t1, t2, t3, t4, t5, t6, t7, t8⟩ := hTk
  obtain ⟨i0, i1, i2, i3, i4, i5, i6, i7, i8, i9, i10⟩ := id hI
  refine r_aload_n (q := 1) C 0 dX7_voids_0 rfl rfl ?_
  refine r_iload_n (q := 2) C 1 dX7_voids_1 rfl rfl ?_
  refine r_callV (q := 5) (t := 100) (As := [.int x]) (st := []) C koX7 t0 (c_findT_n t0 t4 (by omega) hx) q408 q405 q407 qp10 q1 rfl ⟨by decide, by decide⟩ (show (parseMethodDescriptor yX7_find.desc).map (fun d => d.parameters.length) = some 1 by decide +kernel) (by decide) (by decide) (by decide) (by decide) (Nat.le_of_ble_eq_true rfl) rfl dX7_voids_2 rfl ?_
  rintro v9 w1 ⟨rfl, rfl⟩
  show V g k 4 w 0 0 (kQ g k (fun v w' => v = some (.int (-1)) ∧ TcAt g w' a0 tk gN rN tN fn wn gp by9 rD tD tV tT ∧ Fl w w') 3 536) 5 [(0, .ref a0), (1, .int x), (2, .int y)] [.null]
  refine r_astore_nN (q := 6) (lv' := [(3, .null), (0, .ref a0), (1, .int x), (2, .int y)]) C dX7_voids_5 (by decide) rfl rfl ?_
  refine r_aload_nN (q := 7) C 0 dX7_voids_6 rfl rfl ?_
  refine r_ifnullN (tgt := 38) C dX7_voids_7 (by decide) ?_
  refine r_iconst (q := 39) C ((-1)) dX7_voids_38 (by decide) rfl ?_
  exact r_iret C rfl (by decide) (by decide) dX7_voids_39 ⟨rfl, hT, Fl.rfl'⟩

set_option maxHeartbeats 4000000 in
set_option maxRecDepth 20000 in
theorem x_vd_r {l : Launch} {g : cx_G} {w : wd_T} {c a0 tk gN rN tN : Nat} {fn wn : Nat → Nat} {gp by9 rD tD tV tT : Nat → Int32} (hT : TcAt g w a0 tk gN rN tN fn wn gp by9 rD tD tV tT) (hI : Iv9 c tk gN rN tN fn wn by9 tD tV tT) {k9 : Nat} (hk9 : k9 < tk) {y : Int32} (hy : y < nI 1 ∨ nI 99 < y) : Mt l g yX7_voids cX7_voids 4 (some .int) 8 3 536 w [.ref a0, .int (nI k9), .int y] (fun v w' => v = some (.int (-1)) ∧ TcAt g w' a0 tk gN rN tN fn wn gp by9 rD tD tV tT ∧ Fl w w') := by
  refine mt_of RX7 "voids" rfl rfl (by decide) (Nat.le_of_ble_eq_true rfl) [(0, .ref a0), (1, .int (nI k9)), (2, .int y)] rfl ?_
  intro k hkl C hin
  subst hkl
  have hTk := hT
  obtain ⟨a1, alb, alk, asp, a3, alr, asu, alv, af, asg, elb, elk, er, ab, gp9, T, t0, t1, t2, t3, t4, t5, t6, t7, t8⟩ := hTk
  obtain ⟨i0, i1, i2, i3, i4, i5, i6, i7, i8, i9, i10⟩ := id hI
  obtain ⟨atf, atw, ff, fw, o0, o1, o2, o3, o4⟩ := t5 k9 hk9
  refine r_aload_n (q := 1) C 0 dX7_voids_0 rfl rfl ?_
  refine r_iload_n (q := 2) C 1 dX7_voids_1 rfl rfl ?_
  refine r_callV (q := 5) (t := 100) (As := [.int (nI k9)]) (st := []) C koX7 t0 (c_findT_y t0 t4 (by omega) hk9 o0) q408 q405 q407 qp10 q1 rfl ⟨by decide, by decide⟩ (show (parseMethodDescriptor yX7_find.desc).map (fun d => d.parameters.length) = some 1 by decide +kernel) (by decide) (by decide) (by decide) (by decide) (Nat.le_of_ble_eq_true rfl) rfl dX7_voids_2 rfl ?_
  rintro v9 w1 ⟨rfl, rfl⟩
  show V g k 4 w 0 0 (kQ g k (fun v w' => v = some (.int (-1)) ∧ TcAt g w' a0 tk gN rN tN fn wn gp by9 rD tD tV tT ∧ Fl w w') 3 536) 5 [(0, .ref a0), (1, .int (nI k9)), (2, .int y)] [.ref (elk k9)]
  refine r_astore_n (q := 6) (lv' := [(3, .ref (elk k9)), (0, .ref a0), (1, .int (nI k9)), (2, .int y)]) C dX7_voids_5 (by decide) rfl rfl ?_
  refine r_aload_n (q := 7) C 0 dX7_voids_6 rfl rfl ?_
  refine r_ifnull (q := 10) C dX7_voids_7 rfl ?_
  refine r_iload_n (q := 11) C 3 dX7_voids_10 rfl rfl ?_
  refine r_iconst (q := 12) C (nI 1) dX7_voids_11 (by decide) rfl ?_
  refine r_icmp_lt (q := 15) (tgt := 38) C dX7_voids_12 (by decide) rfl (fun hc2 => ?_) (fun hc2 => ?_)
  · refine r_iconst (q := 39) C ((-1)) dX7_voids_38 (by decide) rfl ?_
    exact r_iret C rfl (by decide) (by decide) dX7_voids_39 ⟨rfl, hT, Fl.rfl'⟩
  · refine r_iload_n (q := 16) C 3 dX7_voids_15 rfl rfl ?_
    refine r_bipush (q := 18) C (nI 99) dX7_voids_16 (by decide) rfl ?_
    refine r_icmp_gt_t (tgt := 38) C dX7_voids_18 (by decide) (by rcases hy with q | q; exact absurd q hc2; exact q) ?_
    refine r_iconst (q := 39) C ((-1)) dX7_voids_38 (by decide) rfl ?_
    exact r_iret C rfl (by decide) (by decide) dX7_voids_39 ⟨rfl, hT, Fl.rfl'⟩

set_option maxHeartbeats 4000000 in
set_option maxRecDepth 20000 in
theorem x_vd_v {l : Launch} {g : cx_G} {w : wd_T} {c a0 tk gN rN tN : Nat} {fn wn : Nat → Nat} {gp by9 rD tD tV tT : Nat → Int32} (hT : TcAt g w a0 tk gN rN tN fn wn gp by9 rD tD tV tT) (hI : Iv9 c tk gN rN tN fn wn by9 tD tV tT) {k9 : Nat} (hk9 : k9 < tk) {rs : Nat} (hr1 : 1 ≤ rs) (hr2 : rs ≤ 99) (hz : ¬ fn (9 * k9 + 8) = 0) : Mt l g yX7_voids cX7_voids 4 (some .int) 8 3 536 w [.ref a0, .int (nI k9), .int (nI rs)] (fun v w' => v = some (.int (-1)) ∧ TcAt g w' a0 tk gN rN tN fn wn gp by9 rD tD tV tT ∧ Fl w w') := by
  refine mt_of RX7 "voids" rfl rfl (by decide) (Nat.le_of_ble_eq_true rfl) [(0, .ref a0), (1, .int (nI k9)), (2, .int (nI rs))] rfl ?_
  intro k hkl C hin
  subst hkl
  have hTk := hT
  obtain ⟨a1, alb, alk, asp, a3, alr, asu, alv, af, asg, elb, elk, er, ab, gp9, T, t0, t1, t2, t3, t4, t5, t6, t7, t8⟩ := hTk
  obtain ⟨i0, i1, i2, i3, i4, i5, i6, i7, i8, i9, i10⟩ := id hI
  obtain ⟨atf, atw, ff, fw, o0, o1, o2, o3, o4⟩ := t5 k9 hk9
  have b8 := i4 k9 hk9 8 (by decide)
  have m8 : fmx9 8 = 99 := rfl
  refine r_aload_n (q := 1) C 0 dX7_voids_0 rfl rfl ?_
  refine r_iload_n (q := 2) C 1 dX7_voids_1 rfl rfl ?_
  refine r_callV (q := 5) (t := 100) (As := [.int (nI k9)]) (st := []) C koX7 t0 (c_findT_y t0 t4 (by omega) hk9 o0) q408 q405 q407 qp10 q1 rfl ⟨by decide, by decide⟩ (show (parseMethodDescriptor yX7_find.desc).map (fun d => d.parameters.length) = some 1 by decide +kernel) (by decide) (by decide) (by decide) (by decide) (Nat.le_of_ble_eq_true rfl) rfl dX7_voids_2 rfl ?_
  rintro v9 w1 ⟨rfl, rfl⟩
  show V g k 4 w 0 0 (kQ g k (fun v w' => v = some (.int (-1)) ∧ TcAt g w' a0 tk gN rN tN fn wn gp by9 rD tD tV tT ∧ Fl w w') 3 536) 5 [(0, .ref a0), (1, .int (nI k9)), (2, .int (nI rs))] [.ref (elk k9)]
  refine r_astore_n (q := 6) (lv' := [(3, .ref (elk k9)), (0, .ref a0), (1, .int (nI k9)), (2, .int (nI rs))]) C dX7_voids_5 (by decide) rfl rfl ?_
  refine r_aload_n (q := 7) C 0 dX7_voids_6 rfl rfl ?_
  refine r_ifnull (q := 10) C dX7_voids_7 rfl ?_
  refine r_iload_n (q := 11) C 3 dX7_voids_10 rfl rfl ?_
  refine r_iconst (q := 12) C (nI 1) dX7_voids_11 (by decide) rfl ?_
  refine r_icmp_lt_f (q := 15) (tgt := 38) C dX7_voids_12 (by decide) rfl (fun z => absurd ((nI_ltI (a := rs) (b := 1) (by omega) (by omega)).mp z) (by omega)) ?_
  refine r_iload_n (q := 16) C 3 dX7_voids_15 rfl rfl ?_
  refine r_bipush (q := 18) C (nI 99) dX7_voids_16 (by decide) rfl ?_
  refine r_icmp_gt_f (q := 21) (tgt := 38) C dX7_voids_18 (by decide) rfl (fun z => absurd ((nI_ltI (a := 99) (b := rs) (by omega) (by omega)).mp z) (by omega)) ?_
  refine r_aload_n (q := 22) C 0 dX7_voids_21 rfl rfl ?_
  refine r_callV (q := 25) (t := (1000 + 3 * k9)) (As := []) (st := []) C koX6 o0 (c_isv_y o0 o1 (fun z => hz ((pk_lEQ (a := fn (9 * k9 + 8)) (b := 0) (by omega) (by omega)).mp (((o3 8 (by decide)).trans (by rw [fv9_n (by decide)])).symm.trans z)))) q413 q410 q411 q412 q17 rfl ⟨by decide, by decide⟩ (show (parseMethodDescriptor yX6_isVoid.desc).map (fun d => d.parameters.length) = some 0 by decide +kernel) (by decide) (by decide) (by decide) (by decide) (Nat.le_of_ble_eq_true rfl) rfl dX7_voids_22 rfl ?_
  rintro v9 w2 ⟨rfl, rfl⟩
  show V g k 4 w 0 0 (kQ g k (fun v w' => v = some (.int (-1)) ∧ TcAt g w' a0 tk gN rN tN fn wn gp by9 rD tD tV tT ∧ Fl w w') 3 536) 25 [(3, .ref (elk k9)), (0, .ref a0), (1, .int (nI k9)), (2, .int (nI rs))] [.int (nI 1)]
  refine r_if_ne_t (tgt := 38) C dX7_voids_25 (by decide) (by decide) ?_
  refine r_iconst (q := 39) C ((-1)) dX7_voids_38 (by decide) rfl ?_
  exact r_iret C rfl (by decide) (by decide) dX7_voids_39 ⟨rfl, hT, Fl.rfl'⟩

set_option maxHeartbeats 4000000 in
set_option maxRecDepth 20000 in
theorem x_vd_y {l : Launch} {g : cx_G} {w : wd_T} {c a0 tk gN rN tN : Nat} {fn wn : Nat → Nat} {gp by9 rD tD tV tT : Nat → Int32} (hT : TcAt g w a0 tk gN rN tN fn wn gp by9 rD tD tV tT) (hI : Iv9 c tk gN rN tN fn wn by9 tD tV tT) {k9 : Nat} (hk9 : k9 < tk) {rs : Nat} (hr1 : 1 ≤ rs) (hr2 : rs ≤ 99) (hz : fn (9 * k9 + 8) = 0) : Mt l g yX7_voids cX7_voids 4 (some .int) 8 3 536 w [.ref a0, .int (nI k9), .int (nI rs)] (fun v w' => v = some (.int (nI rN)) ∧ TcAt g w' a0 tk gN (rN + 1) tN (upN fn (9 * k9 + 8) rs) wn gp (apR by9 rN (vdR (fn (9 * k9)) rs)) (upd rD rN (nI (upN fn (9 * k9 + 8) rs (9 * k9 + 6) / 86400))) tD tV tT ∧ Fl w w') := by
  refine mt_of RX7 "voids" rfl rfl (by decide) (Nat.le_of_ble_eq_true rfl) [(0, .ref a0), (1, .int (nI k9)), (2, .int (nI rs))] rfl ?_
  intro k hkl C hin
  subst hkl
  have hTk := hT
  obtain ⟨a1, alb, alk, asp, a3, alr, asu, alv, af, asg, elb, elk, er, ab, gp9, T, t0, t1, t2, t3, t4, t5, t6, t7, t8⟩ := hTk
  obtain ⟨i0, i1, i2, i3, i4, i5, i6, i7, i8, i9, i10⟩ := id hI
  obtain ⟨atf, atw, ff, fw, o0, o1, o2, o3, o4⟩ := t5 k9 hk9
  have b8 := i4 k9 hk9 8 (by decide)
  have m8 : fmx9 8 = 99 := rfl
  refine r_aload_n (q := 1) C 0 dX7_voids_0 rfl rfl ?_
  refine r_iload_n (q := 2) C 1 dX7_voids_1 rfl rfl ?_
  refine r_callV (q := 5) (t := 100) (As := [.int (nI k9)]) (st := []) C koX7 t0 (c_findT_y t0 t4 (by omega) hk9 o0) q408 q405 q407 qp10 q1 rfl ⟨by decide, by decide⟩ (show (parseMethodDescriptor yX7_find.desc).map (fun d => d.parameters.length) = some 1 by decide +kernel) (by decide) (by decide) (by decide) (by decide) (Nat.le_of_ble_eq_true rfl) rfl dX7_voids_2 rfl ?_
  rintro v9 w1 ⟨rfl, rfl⟩
  show V g k 4 w 0 0 (kQ g k (fun v w' => v = some (.int (nI rN)) ∧ TcAt g w' a0 tk gN (rN + 1) tN (upN fn (9 * k9 + 8) rs) wn gp (apR by9 rN (vdR (fn (9 * k9)) rs)) (upd rD rN (nI (upN fn (9 * k9 + 8) rs (9 * k9 + 6) / 86400))) tD tV tT ∧ Fl w w') 3 536) 5 [(0, .ref a0), (1, .int (nI k9)), (2, .int (nI rs))] [.ref (elk k9)]
  refine r_astore_n (q := 6) (lv' := [(3, .ref (elk k9)), (0, .ref a0), (1, .int (nI k9)), (2, .int (nI rs))]) C dX7_voids_5 (by decide) rfl rfl ?_
  refine r_aload_n (q := 7) C 0 dX7_voids_6 rfl rfl ?_
  refine r_ifnull (q := 10) C dX7_voids_7 rfl ?_
  refine r_iload_n (q := 11) C 3 dX7_voids_10 rfl rfl ?_
  refine r_iconst (q := 12) C (nI 1) dX7_voids_11 (by decide) rfl ?_
  refine r_icmp_lt_f (q := 15) (tgt := 38) C dX7_voids_12 (by decide) rfl (fun z => absurd ((nI_ltI (a := rs) (b := 1) (by omega) (by omega)).mp z) (by omega)) ?_
  refine r_iload_n (q := 16) C 3 dX7_voids_15 rfl rfl ?_
  refine r_bipush (q := 18) C (nI 99) dX7_voids_16 (by decide) rfl ?_
  refine r_icmp_gt_f (q := 21) (tgt := 38) C dX7_voids_18 (by decide) rfl (fun z => absurd ((nI_ltI (a := 99) (b := rs) (by omega) (by omega)).mp z) (by omega)) ?_
  refine r_aload_n (q := 22) C 0 dX7_voids_21 rfl rfl ?_
  refine r_callV (q := 25) (t := (1000 + 3 * k9)) (As := []) (st := []) C koX6 o0 (c_isv_n o0 o1 ((o3 8 (by decide)).trans (by rw [fv9_n (by decide), hz]))) q413 q410 q411 q412 q17 rfl ⟨by decide, by decide⟩ (show (parseMethodDescriptor yX6_isVoid.desc).map (fun d => d.parameters.length) = some 0 by decide +kernel) (by decide) (by decide) (by decide) (by decide) (Nat.le_of_ble_eq_true rfl) rfl dX7_voids_22 rfl ?_
  rintro v9 w2 ⟨rfl, rfl⟩
  show V g k 4 w 0 0 (kQ g k (fun v w' => v = some (.int (nI rN)) ∧ TcAt g w' a0 tk gN (rN + 1) tN (upN fn (9 * k9 + 8) rs) wn gp (apR by9 rN (vdR (fn (9 * k9)) rs)) (upd rD rN (nI (upN fn (9 * k9 + 8) rs (9 * k9 + 6) / 86400))) tD tV tT ∧ Fl w w') 3 536) 25 [(3, .ref (elk k9)), (0, .ref a0), (1, .int (nI k9)), (2, .int (nI rs))] [.int (nI 0)]
  refine r_if_ne_f (q := 28) (tgt := 38) C dX7_voids_25 (by decide) rfl (by decide) ?_
  refine r_aload_n (q := 29) C 1 dX7_voids_28 rfl rfl ?_
  refine r_get (q := 32) (t := 100) C koX7 t0 5 (by decide) q130 rfl rfl dX7_voids_29 rfl ?_
  refine r_callV (q := 35) (t := 103) (As := []) (st := []) C koX0 t6.1 (c_isFull t6 (by omega)) q283 q280 q281 q282 q6 rfl ⟨by decide, by decide⟩ (show (parseMethodDescriptor yX0_isFull.desc).map (fun d => d.parameters.length) = some 0 by decide +kernel) (by decide) (by decide) (by decide) (by decide) (Nat.le_of_ble_eq_true rfl) rfl dX7_voids_32 rfl ?_
  rintro v9 w3 ⟨rfl, rfl⟩
  show V g k 4 w 0 0 (kQ g k (fun v w' => v = some (.int (nI rN)) ∧ TcAt g w' a0 tk gN (rN + 1) tN (upN fn (9 * k9 + 8) rs) wn gp (apR by9 rN (vdR (fn (9 * k9)) rs)) (upd rD rN (nI (upN fn (9 * k9 + 8) rs (9 * k9 + 6) / 86400))) tD tV tT ∧ Fl w w') 3 536) 35 [(3, .ref (elk k9)), (0, .ref a0), (1, .int (nI k9)), (2, .int (nI rs))] [.int (nI 0)]
  refine r_if_eq_t (tgt := 40) C dX7_voids_35 (by decide) (by decide) ?_
  have hle : upN fn (9 * k9 + 8) rs (9 * k9 + 4) ≤ upN fn (9 * k9 + 8) rs (9 * k9 + 3) := by
    rw [upN_ne (by omega), upN_ne (by omega)]
    exact i5 k9 hk9
  refine r_aload_n (q := 41) C 0 dX7_voids_40 rfl rfl ?_
  refine r_bipush (q := 43) C (nI 8) dX7_voids_41 (by decide) rfl ?_
  refine r_iload_n (q := 44) C 3 dX7_voids_43 rfl rfl ?_
  refine r_i2l (q := 45) C dX7_voids_44 rfl ?_
  refine r_tl (show ((nI rs).toInt64 : Int64) = lN rs from nI_l (by omega)) ?_
  refine r_callV (q := 48) (t := (1000 + 3 * k9)) (As := [.int (nI 8), .long (lN rs)]) (st := []) C koX6 o0 (c_put (t := 1000 + 3 * k9) (x := lN rs) o0 o1 (i := 8) (by omega)) q421 q418 q419 q420 q17 rfl ⟨by decide, by decide⟩ (show (parseMethodDescriptor yX6_put.desc).map (fun d => d.parameters.length) = some 2 by decide +kernel) (by decide) (by decide) (by decide) (by decide) (Nat.le_of_ble_eq_true rfl) rfl dX7_voids_45 rfl ?_
  rintro v9 w5 ⟨rfl, e0, ef5⟩
  have p9 := put9 (k := k9) (i := 8) (x := rs) (by omega) o3 hle
  have k5 : ∀ t, t ≠ 1000 + 3 * k9 + 1 → w5 t = w t := fun t ht => ef5 t (by omega)
  show V g k 4 w5 0 0 (kQ g k (fun v w' => v = some (.int (nI rN)) ∧ TcAt g w' a0 tk gN (rN + 1) tN (upN fn (9 * k9 + 8) rs) wn gp (apR by9 rN (vdR (fn (9 * k9)) rs)) (upd rD rN (nI (upN fn (9 * k9 + 8) rs (9 * k9 + 6) / 86400))) tD tV tT ∧ Fl w w') 3 536) 48 [(3, .ref (elk k9)), (0, .ref a0), (1, .int (nI k9)), (2, .int (nI rs))] []
  refine r_aload_n (q := 49) C 1 dX7_voids_48 rfl rfl ?_
  refine r_get (q := 52) (t := 100) C koX7 ((k5 100 (by omega)).trans t0) 5 (by decide) q130 rfl rfl dX7_voids_49 rfl ?_
  refine r_aload_n (q := 53) C 0 dX7_voids_52 rfl rfl ?_
  refine r_iload_n (q := 54) C 3 dX7_voids_53 rfl rfl ?_
  have hs6 : fv9 (upN fn (9 * k9 + 8) rs) k9 6 ≤ 8000000000 := by
    have := i4 k9 hk9 6 (by decide)
    have m6 : fmx9 6 = 8000000000 := rfl
    rw [fv9_n (by decide)]
    unfold upN
    split
    · omega
    · omega
  refine r_callS (q := 57) (As := [.ref (elk k9), .int (nI rs)]) (st := [.ref a3]) C (c_voidRow (t := 1000 + 3 * k9) (n := rN) (vf := fv9 (upN fn (9 * k9 + 8) rs) k9) (by omega) (by omega) ((k5 _ (by omega)).trans o0) e0 p9 hs6 (by omega)) q432 q430 q431 q1 ⟨by decide, by decide⟩ (show (parseMethodDescriptor yX7_voidRow.desc).map (fun d => d.parameters.length) = some 2 by decide +kernel) (by decide) (by decide) (by decide) (by decide) (Nat.le_of_ble_eq_true rfl) rfl dX7_voids_54 rfl ?_
  rintro v9 w6 ⟨ar, br, nr, rfl, r0, r1, ef6⟩
  rw [fv9_n (by decide), upN_ne (show 9 * k9 + 0 ≠ 9 * k9 + 8 by omega)] at r1
  rw [fv9_n (by decide)] at r0
  have k6 : ∀ t, t ≠ 1000 + 3 * k9 + 1 → (t < 2000 + 2 * rN ∨ 2002 + 2 * rN ≤ t) → w6 t = w t := fun t a b => (ef6 t b).trans (k5 t a)
  have c6 : ChAt g w6 a3 alr asu alv rN er ab by9 rD := by
    obtain ⟨q1, q2, q3, q4, lev, q5, q6⟩ := t6
    exact ⟨(k6 103 (by omega) (by omega)).trans q1, q2.keptR (k6 126 (by omega) (by omega)) (k6 127 (by omega) (by omega)) (fun j hj => k6 _ (by omega) (by omega)), q3.kept (fun t a b => k6 t (by omega) (by omega)), q4.kept (fun t a b => k6 t (by omega) (by omega)), lev, (k6 114 (by omega) (by omega)).trans q5, q6⟩
  show V g k 4 w6 2 76 (kQ g k (fun v w' => v = some (.int (nI rN)) ∧ TcAt g w' a0 tk gN (rN + 1) tN (upN fn (9 * k9 + 8) rs) wn gp (apR by9 rN (vdR (fn (9 * k9)) rs)) (upd rD rN (nI (upN fn (9 * k9 + 8) rs (9 * k9 + 6) / 86400))) tD tV tT ∧ Fl w w') 3 536) 57 [(3, .ref (elk k9)), (0, .ref a0), (1, .int (nI k9)), (2, .int (nI rs))] [.ref ar, .ref a3]
  refine r_callV (q := 60) (t := 103) (As := [.ref ar]) (st := []) C koX0 c6.1 (c_append c6 (by omega) r0 r1) q337 q334 q335 q336 q6 rfl ⟨by decide, by decide⟩ (show (parseMethodDescriptor yX0_append.desc).map (fun d => d.parameters.length) = some 1 by decide +kernel) (by decide) (by decide) (by decide) (by decide) (Nat.le_of_ble_eq_true rfl) rfl dX7_voids_57 rfl ?_
  rintro v9 w7 ⟨rfl, c7, ef7⟩
  show V g k 4 w7 3 536 (kQ g k (fun v w' => v = some (.int (nI rN)) ∧ TcAt g w' a0 tk gN (rN + 1) tN (upN fn (9 * k9 + 8) rs) wn gp (apR by9 rN (vdR (fn (9 * k9)) rs)) (upd rD rN (nI (upN fn (9 * k9 + 8) rs (9 * k9 + 6) / 86400))) tD tV tT ∧ Fl w w') 3 536) 60 [(3, .ref (elk k9)), (0, .ref a0), (1, .int (nI k9)), (2, .int (nI rs))] [.int (nI rN)]
  have k7 : ∀ t, (t ≠ 1000 + 3 * k9 + 1 ∧ (t < 110 ∨ 114 ≤ t) ∧ (t < 126 ∨ 129 ≤ t) ∧ (t < 2000 ∨ 3000 ≤ t)) → w7 t = w t := fun t a => (ef7 t a.2.1 a.2.2.1 (by omega)).trans (k6 t a.1 (by omega))
  refine r_iret C rfl (by decide) (by decide) dX7_voids_60 ⟨rfl, ⟨a1, alb, alk, asp, a3, alr, asu, alv, af, asg, elb, elk, va_up er rN ar, va_up ab rN br, gp9, T, (k7 100 (by omega)).trans t0, (k7 102 (by omega)).trans t1, t2, t3.kept (by omega) (fun t ht => k7 t (by omega)), t4.kept (k7 123 (by omega)) (k7 124 (by omega)) (fun j hj q => q.kept (k7 _ (by show 1000 + 3 * j ≠ _ ∧ _; omega))), ?_, c7, t7.kept (k7 115 (by omega)) (k7 116 (by omega)), t8⟩, fun t ht => k7 t (by omega)⟩
  intro k8 hk8
  by_cases z : k8 = k9
  · subst z
    exact ⟨atf, atw, _, fw, (k7 _ (by omega)).trans o0, (ef7 _ (by omega) (by omega) (by omega)).trans ((ef6 _ (by omega)).trans e0), (k7 _ (by omega)).trans o2, p9, o4⟩
  · obtain ⟨atf2, atw2, ff2, fw2, p0, p1, p2, p3, p4⟩ := t5 k8 hk8
    exact ⟨atf2, atw2, ff2, fw2, (k7 _ (by omega)).trans p0, (k7 _ (by omega)).trans p1, (k7 _ (by omega)).trans p2, fun j hj => by rw [fv9_o z (by omega) hj]; exact p3 j hj, p4⟩

set_option maxHeartbeats 4000000 in
set_option maxRecDepth 20000 in
theorem x_cr_n {l : Launch} {g : cx_G} {w : wd_T} {c a0 tk gN rN tN : Nat} {fn wn : Nat → Nat} {gp by9 rD tD tV tT : Nat → Int32} (hT : TcAt g w a0 tk gN rN tN fn wn gp by9 rD tD tV tT) (hI : Iv9 c tk gN rN tN fn wn by9 tD tV tT) {x : Int32} (hx : x < 0 ∨ nI tk ≤ x) {y ps : Int32} {z : Int64} : Mt l g yX7_correct cX7_correct 7 (some .int) 8 3 536 w [.ref a0, .int x, .int y, .long z, .int ps] (fun v w' => v = some (.int (-1)) ∧ TcAt g w' a0 tk gN rN tN fn wn gp by9 rD tD tV tT ∧ Fl w w') := by
  refine mt_of RX7 "correct" rfl rfl (by decide) (Nat.le_of_ble_eq_true rfl) [(0, .ref a0), (1, .int x), (2, .int y), (3, .long z), (5, .int ps)] rfl ?_
  intro k hkl C hin
  subst hkl
  have hTk := hT
  obtain ⟨a1, alb, alk, asp, a3, alr, asu, alv, af, asg, elb, elk, er, ab, gp9, T, t0, t1, t2, t3, t4, t5, t6, t7, t8⟩ := hTk
  obtain ⟨i0, i1, i2, i3, i4, i5, i6, i7, i8, i9, i10⟩ := id hI
  refine r_aload_n (q := 1) C 0 dX7_correct_0 rfl rfl ?_
  refine r_iload_n (q := 2) C 1 dX7_correct_1 rfl rfl ?_
  refine r_callV (q := 5) (t := 100) (As := [.int x]) (st := []) C koX7 t0 (c_findT_n t0 t4 (by omega) hx) q408 q405 q407 qp10 q1 rfl ⟨by decide, by decide⟩ (show (parseMethodDescriptor yX7_find.desc).map (fun d => d.parameters.length) = some 1 by decide +kernel) (by decide) (by decide) (by decide) (by decide) (Nat.le_of_ble_eq_true rfl) rfl dX7_correct_2 rfl ?_
  rintro v9 w1 ⟨rfl, rfl⟩
  show V g k 7 w 0 0 (kQ g k (fun v w' => v = some (.int (-1)) ∧ TcAt g w' a0 tk gN rN tN fn wn gp by9 rD tD tV tT ∧ Fl w w') 3 536) 5 [(0, .ref a0), (1, .int x), (2, .int y), (3, .long z), (5, .int ps)] [.null]
  refine r_astoreN (q := 7) (lv' := [(6, .null), (0, .ref a0), (1, .int x), (2, .int y), (3, .long z), (5, .int ps)]) C dX7_correct_5 (by decide) rfl rfl ?_
  refine r_aloadN (q := 9) C 0 dX7_correct_7 rfl rfl ?_
  refine r_ifnullN (tgt := 31) C dX7_correct_9 (by decide) ?_
  refine r_iconst (q := 32) C ((-1)) dX7_correct_31 (by decide) rfl ?_
  exact r_iret C rfl (by decide) (by decide) dX7_correct_32 ⟨rfl, hT, Fl.rfl'⟩

set_option maxHeartbeats 4000000 in
set_option maxRecDepth 20000 in
theorem x_cr_b {l : Launch} {g : cx_G} {w : wd_T} {c a0 tk gN rN tN : Nat} {fn wn : Nat → Nat} {gp by9 rD tD tV tT : Nat → Int32} (hT : TcAt g w a0 tk gN rN tN fn wn gp by9 rD tD tV tT) (hI : Iv9 c tk gN rN tN fn wn by9 tD tV tT) {k9 : Nat} (hk9 : k9 < tk) {y ps : Int32} {z : Int64} (hb : ¬ (ok9 y z ∧ ok9 (nI 7) ps.toInt64)) : Mt l g yX7_correct cX7_correct 7 (some .int) 8 3 536 w [.ref a0, .int (nI k9), .int y, .long z, .int ps] (fun v w' => v = some (.int (-1)) ∧ TcAt g w' a0 tk gN rN tN fn wn gp by9 rD tD tV tT ∧ Fl w w') := by
  refine mt_of RX7 "correct" rfl rfl (by decide) (Nat.le_of_ble_eq_true rfl) [(0, .ref a0), (1, .int (nI k9)), (2, .int y), (3, .long z), (5, .int ps)] rfl ?_
  intro k hkl C hin
  subst hkl
  have hTk := hT
  obtain ⟨a1, alb, alk, asp, a3, alr, asu, alv, af, asg, elb, elk, er, ab, gp9, T, t0, t1, t2, t3, t4, t5, t6, t7, t8⟩ := hTk
  obtain ⟨i0, i1, i2, i3, i4, i5, i6, i7, i8, i9, i10⟩ := id hI
  obtain ⟨atf, atw, ff, fw, o0, o1, o2, o3, o4⟩ := t5 k9 hk9
  refine r_aload_n (q := 1) C 0 dX7_correct_0 rfl rfl ?_
  refine r_iload_n (q := 2) C 1 dX7_correct_1 rfl rfl ?_
  refine r_callV (q := 5) (t := 100) (As := [.int (nI k9)]) (st := []) C koX7 t0 (c_findT_y t0 t4 (by omega) hk9 o0) q408 q405 q407 qp10 q1 rfl ⟨by decide, by decide⟩ (show (parseMethodDescriptor yX7_find.desc).map (fun d => d.parameters.length) = some 1 by decide +kernel) (by decide) (by decide) (by decide) (by decide) (Nat.le_of_ble_eq_true rfl) rfl dX7_correct_2 rfl ?_
  rintro v9 w1 ⟨rfl, rfl⟩
  show V g k 7 w 0 0 (kQ g k (fun v w' => v = some (.int (-1)) ∧ TcAt g w' a0 tk gN rN tN fn wn gp by9 rD tD tV tT ∧ Fl w w') 3 536) 5 [(0, .ref a0), (1, .int (nI k9)), (2, .int y), (3, .long z), (5, .int ps)] [.ref (elk k9)]
  refine r_astore (q := 7) (lv' := [(6, .ref (elk k9)), (0, .ref a0), (1, .int (nI k9)), (2, .int y), (3, .long z), (5, .int ps)]) C dX7_correct_5 (by decide) rfl rfl ?_
  refine r_aload (q := 9) C 0 dX7_correct_7 rfl rfl ?_
  refine r_ifnull (q := 12) C dX7_correct_9 rfl ?_
  refine r_iload_n (q := 13) C 3 dX7_correct_12 rfl rfl ?_
  refine r_lload_n (q := 14) C 4 dX7_correct_13 rfl rfl ?_
  by_cases uu1 : ok9 y z
  · refine r_callS (q := 17) (As := [.int y, .long z]) (st := []) C (c_fits_ok uu1) q154 q152 q153 q1 ⟨by decide, by decide⟩ (show (parseMethodDescriptor yX7_fits.desc).map (fun d => d.parameters.length) = some 2 by decide +kernel) (by decide) (by decide) (by decide) (by decide) (Nat.le_of_ble_eq_true rfl) rfl dX7_correct_14 rfl ?_
    rintro v9 w2 ⟨rfl, rfl⟩
    show V g k 7 w 0 0 (kQ g k (fun v w' => v = some (.int (-1)) ∧ TcAt g w' a0 tk gN rN tN fn wn gp by9 rD tD tV tT ∧ Fl w w') 3 536) 17 [(6, .ref (elk k9)), (0, .ref a0), (1, .int (nI k9)), (2, .int y), (3, .long z), (5, .int ps)] [.int (nI 1)]
    refine r_if_eq_f (q := 20) (tgt := 31) C dX7_correct_17 (by decide) rfl (by decide) ?_
    refine r_bipush (q := 22) C (nI 7) dX7_correct_20 (by decide) rfl ?_
    refine r_iload (q := 24) C 5 dX7_correct_22 rfl rfl ?_
    refine r_i2l (q := 25) C dX7_correct_24 rfl ?_
    refine r_callS (q := 28) (As := [.int (nI 7), .long ps.toInt64]) (st := []) C (c_fits_n (fun q => hb ⟨uu1, q⟩)) q154 q152 q153 q1 ⟨by decide, by decide⟩ (show (parseMethodDescriptor yX7_fits.desc).map (fun d => d.parameters.length) = some 2 by decide +kernel) (by decide) (by decide) (by decide) (by decide) (Nat.le_of_ble_eq_true rfl) rfl dX7_correct_25 rfl ?_
    rintro v9 w3 ⟨rfl, rfl⟩
    show V g k 7 w 0 0 (kQ g k (fun v w' => v = some (.int (-1)) ∧ TcAt g w' a0 tk gN rN tN fn wn gp by9 rD tD tV tT ∧ Fl w w') 3 536) 28 [(6, .ref (elk k9)), (0, .ref a0), (1, .int (nI k9)), (2, .int y), (3, .long z), (5, .int ps)] [.int (nI 0)]
    refine r_if_ne_f (q := 31) (tgt := 33) C dX7_correct_28 (by decide) rfl (by decide) ?_
    refine r_iconst (q := 32) C ((-1)) dX7_correct_31 (by decide) rfl ?_
    exact r_iret C rfl (by decide) (by decide) dX7_correct_32 ⟨rfl, hT, Fl.rfl'⟩
  · refine r_callS (q := 17) (As := [.int y, .long z]) (st := []) C (c_fits_n uu1) q154 q152 q153 q1 ⟨by decide, by decide⟩ (show (parseMethodDescriptor yX7_fits.desc).map (fun d => d.parameters.length) = some 2 by decide +kernel) (by decide) (by decide) (by decide) (by decide) (Nat.le_of_ble_eq_true rfl) rfl dX7_correct_14 rfl ?_
    rintro v9 w4 ⟨rfl, rfl⟩
    show V g k 7 w 0 0 (kQ g k (fun v w' => v = some (.int (-1)) ∧ TcAt g w' a0 tk gN rN tN fn wn gp by9 rD tD tV tT ∧ Fl w w') 3 536) 17 [(6, .ref (elk k9)), (0, .ref a0), (1, .int (nI k9)), (2, .int y), (3, .long z), (5, .int ps)] [.int (nI 0)]
    refine r_if_eq_t (tgt := 31) C dX7_correct_17 (by decide) (by decide) ?_
    refine r_iconst (q := 32) C ((-1)) dX7_correct_31 (by decide) rfl ?_
    exact r_iret C rfl (by decide) (by decide) dX7_correct_32 ⟨rfl, hT, Fl.rfl'⟩

set_option maxHeartbeats 4000000 in
set_option maxRecDepth 20000 in
theorem x_cr_v {l : Launch} {g : cx_G} {w : wd_T} {c a0 tk gN rN tN : Nat} {fn wn : Nat → Nat} {gp by9 rD tD tV tT : Nat → Int32} (hT : TcAt g w a0 tk gN rN tN fn wn gp by9 rD tD tV tT) (hI : Iv9 c tk gN rN tN fn wn by9 tD tV tT) {k9 : Nat} (hk9 : k9 < tk) {f n ps : Nat} (hf : cb9 f) (hn : n ≤ mx9 f) (hps : ps ≤ 999) (hz : ¬ fn (9 * k9 + 8) = 0) : Mt l g yX7_correct cX7_correct 7 (some .int) 8 3 536 w [.ref a0, .int (nI k9), .int (nI f), .long (lN n), .int (nI ps)] (fun v w' => v = some (.int (-1)) ∧ TcAt g w' a0 tk gN rN tN fn wn gp by9 rD tD tV tT ∧ Fl w w') := by
  refine mt_of RX7 "correct" rfl rfl (by decide) (Nat.le_of_ble_eq_true rfl) [(0, .ref a0), (1, .int (nI k9)), (2, .int (nI f)), (3, .long (lN n)), (5, .int (nI ps))] rfl ?_
  intro k hkl C hin
  subst hkl
  have hTk := hT
  obtain ⟨a1, alb, alk, asp, a3, alr, asu, alv, af, asg, elb, elk, er, ab, gp9, T, t0, t1, t2, t3, t4, t5, t6, t7, t8⟩ := hTk
  obtain ⟨i0, i1, i2, i3, i4, i5, i6, i7, i8, i9, i10⟩ := id hI
  obtain ⟨atf, atw, ff, fw, o0, o1, o2, o3, o4⟩ := t5 k9 hk9
  have b8 := i4 k9 hk9 8 (by decide)
  have m8 : fmx9 8 = 99 := rfl
  have hm9 := mx9_le hf
  have hf9 := cb9_lt hf
  have hp7 : cb9 7 := by unfold cb9; omega
  refine r_aload_n (q := 1) C 0 dX7_correct_0 rfl rfl ?_
  refine r_iload_n (q := 2) C 1 dX7_correct_1 rfl rfl ?_
  refine r_callV (q := 5) (t := 100) (As := [.int (nI k9)]) (st := []) C koX7 t0 (c_findT_y t0 t4 (by omega) hk9 o0) q408 q405 q407 qp10 q1 rfl ⟨by decide, by decide⟩ (show (parseMethodDescriptor yX7_find.desc).map (fun d => d.parameters.length) = some 1 by decide +kernel) (by decide) (by decide) (by decide) (by decide) (Nat.le_of_ble_eq_true rfl) rfl dX7_correct_2 rfl ?_
  rintro v9 w1 ⟨rfl, rfl⟩
  show V g k 7 w 0 0 (kQ g k (fun v w' => v = some (.int (-1)) ∧ TcAt g w' a0 tk gN rN tN fn wn gp by9 rD tD tV tT ∧ Fl w w') 3 536) 5 [(0, .ref a0), (1, .int (nI k9)), (2, .int (nI f)), (3, .long (lN n)), (5, .int (nI ps))] [.ref (elk k9)]
  refine r_astore (q := 7) (lv' := [(6, .ref (elk k9)), (0, .ref a0), (1, .int (nI k9)), (2, .int (nI f)), (3, .long (lN n)), (5, .int (nI ps))]) C dX7_correct_5 (by decide) rfl rfl ?_
  refine r_aload (q := 9) C 0 dX7_correct_7 rfl rfl ?_
  refine r_ifnull (q := 12) C dX7_correct_9 rfl ?_
  refine r_iload_n (q := 13) C 3 dX7_correct_12 rfl rfl ?_
  refine r_lload_n (q := 14) C 4 dX7_correct_13 rfl rfl ?_
  refine r_callS (q := 17) (As := [.int (nI f), .long (lN n)]) (st := []) C (c_fits_y hf hn) q154 q152 q153 q1 ⟨by decide, by decide⟩ (show (parseMethodDescriptor yX7_fits.desc).map (fun d => d.parameters.length) = some 2 by decide +kernel) (by decide) (by decide) (by decide) (by decide) (Nat.le_of_ble_eq_true rfl) rfl dX7_correct_14 rfl ?_
  rintro v9 w2 ⟨rfl, rfl⟩
  show V g k 7 w 0 0 (kQ g k (fun v w' => v = some (.int (-1)) ∧ TcAt g w' a0 tk gN rN tN fn wn gp by9 rD tD tV tT ∧ Fl w w') 3 536) 17 [(6, .ref (elk k9)), (0, .ref a0), (1, .int (nI k9)), (2, .int (nI f)), (3, .long (lN n)), (5, .int (nI ps))] [.int (nI 1)]
  refine r_if_eq_f (q := 20) (tgt := 31) C dX7_correct_17 (by decide) rfl (by decide) ?_
  refine r_bipush (q := 22) C (nI 7) dX7_correct_20 (by decide) rfl ?_
  refine r_iload (q := 24) C 5 dX7_correct_22 rfl rfl ?_
  refine r_i2l (q := 25) C dX7_correct_24 rfl ?_
  refine r_tl (show ((nI ps).toInt64 : Int64) = lN ps from nI_l (by omega)) ?_
  refine r_callS (q := 28) (As := [.int (nI 7), .long (lN ps)]) (st := []) C (c_fits_y (f := 7) (n := ps) hp7 hps) q154 q152 q153 q1 ⟨by decide, by decide⟩ (show (parseMethodDescriptor yX7_fits.desc).map (fun d => d.parameters.length) = some 2 by decide +kernel) (by decide) (by decide) (by decide) (by decide) (Nat.le_of_ble_eq_true rfl) rfl dX7_correct_25 rfl ?_
  rintro v9 w3 ⟨rfl, rfl⟩
  show V g k 7 w 0 0 (kQ g k (fun v w' => v = some (.int (-1)) ∧ TcAt g w' a0 tk gN rN tN fn wn gp by9 rD tD tV tT ∧ Fl w w') 3 536) 28 [(6, .ref (elk k9)), (0, .ref a0), (1, .int (nI k9)), (2, .int (nI f)), (3, .long (lN n)), (5, .int (nI ps))] [.int (nI 1)]
  refine r_if_ne_t (tgt := 33) C dX7_correct_28 (by decide) (by decide) ?_
  refine r_aload (q := 35) C 0 dX7_correct_33 rfl rfl ?_
  refine r_callV (q := 38) (t := (1000 + 3 * k9)) (As := []) (st := []) C koX6 o0 (c_isv_y o0 o1 (fun z => hz ((pk_lEQ (a := fn (9 * k9 + 8)) (b := 0) (by omega) (by omega)).mp (((o3 8 (by decide)).trans (by rw [fv9_n (by decide)])).symm.trans z)))) q413 q410 q411 q412 q17 rfl ⟨by decide, by decide⟩ (show (parseMethodDescriptor yX6_isVoid.desc).map (fun d => d.parameters.length) = some 0 by decide +kernel) (by decide) (by decide) (by decide) (by decide) (Nat.le_of_ble_eq_true rfl) rfl dX7_correct_35 rfl ?_
  rintro v9 w4 ⟨rfl, rfl⟩
  show V g k 7 w 0 0 (kQ g k (fun v w' => v = some (.int (-1)) ∧ TcAt g w' a0 tk gN rN tN fn wn gp by9 rD tD tV tT ∧ Fl w w') 3 536) 38 [(6, .ref (elk k9)), (0, .ref a0), (1, .int (nI k9)), (2, .int (nI f)), (3, .long (lN n)), (5, .int (nI ps))] [.int (nI 1)]
  refine r_if_ne_t (tgt := 61) C dX7_correct_38 (by decide) (by decide) ?_
  refine r_iconst (q := 62) C ((-1)) dX7_correct_61 (by decide) rfl ?_
  exact r_iret C rfl (by decide) (by decide) dX7_correct_62 ⟨rfl, hT, Fl.rfl'⟩

set_option maxHeartbeats 4000000 in
set_option maxRecDepth 20000 in
theorem x_cr_g {l : Launch} {g : cx_G} {w : wd_T} {c a0 tk gN rN tN : Nat} {fn wn : Nat → Nat} {gp by9 rD tD tV tT : Nat → Int32} (hT : TcAt g w a0 tk gN rN tN fn wn gp by9 rD tD tV tT) (hI : Iv9 c tk gN rN tN fn wn by9 tD tV tT) {k9 : Nat} (hk9 : k9 < tk) {f n ps : Nat} (hf : cb9 f) (hn : n ≤ mx9 f) (hps : ps ≤ 999) (hz : fn (9 * k9 + 8) = 0) (hle : ¬ upN fn (9 * k9 + f) n (9 * k9 + 4) ≤ upN fn (9 * k9 + f) n (9 * k9 + 3)) : Mt l g yX7_correct cX7_correct 7 (some .int) 8 3 536 w [.ref a0, .int (nI k9), .int (nI f), .long (lN n), .int (nI ps)] (fun v w' => v = some (.int (-1)) ∧ TcAt g w' a0 tk gN rN tN fn wn gp by9 rD tD tV tT ∧ Fl w w') := by
  refine mt_of RX7 "correct" rfl rfl (by decide) (Nat.le_of_ble_eq_true rfl) [(0, .ref a0), (1, .int (nI k9)), (2, .int (nI f)), (3, .long (lN n)), (5, .int (nI ps))] rfl ?_
  intro k hkl C hin
  subst hkl
  have hTk := hT
  obtain ⟨a1, alb, alk, asp, a3, alr, asu, alv, af, asg, elb, elk, er, ab, gp9, T, t0, t1, t2, t3, t4, t5, t6, t7, t8⟩ := hTk
  obtain ⟨i0, i1, i2, i3, i4, i5, i6, i7, i8, i9, i10⟩ := id hI
  obtain ⟨atf, atw, ff, fw, o0, o1, o2, o3, o4⟩ := t5 k9 hk9
  have b8 := i4 k9 hk9 8 (by decide)
  have m8 : fmx9 8 = 99 := rfl
  have hm9 := mx9_le hf
  have hf9 := cb9_lt hf
  have hp7 : cb9 7 := by unfold cb9; omega
  refine r_aload_n (q := 1) C 0 dX7_correct_0 rfl rfl ?_
  refine r_iload_n (q := 2) C 1 dX7_correct_1 rfl rfl ?_
  refine r_callV (q := 5) (t := 100) (As := [.int (nI k9)]) (st := []) C koX7 t0 (c_findT_y t0 t4 (by omega) hk9 o0) q408 q405 q407 qp10 q1 rfl ⟨by decide, by decide⟩ (show (parseMethodDescriptor yX7_find.desc).map (fun d => d.parameters.length) = some 1 by decide +kernel) (by decide) (by decide) (by decide) (by decide) (Nat.le_of_ble_eq_true rfl) rfl dX7_correct_2 rfl ?_
  rintro v9 w1 ⟨rfl, rfl⟩
  show V g k 7 w 0 0 (kQ g k (fun v w' => v = some (.int (-1)) ∧ TcAt g w' a0 tk gN rN tN fn wn gp by9 rD tD tV tT ∧ Fl w w') 3 536) 5 [(0, .ref a0), (1, .int (nI k9)), (2, .int (nI f)), (3, .long (lN n)), (5, .int (nI ps))] [.ref (elk k9)]
  refine r_astore (q := 7) (lv' := [(6, .ref (elk k9)), (0, .ref a0), (1, .int (nI k9)), (2, .int (nI f)), (3, .long (lN n)), (5, .int (nI ps))]) C dX7_correct_5 (by decide) rfl rfl ?_
  refine r_aload (q := 9) C 0 dX7_correct_7 rfl rfl ?_
  refine r_ifnull (q := 12) C dX7_correct_9 rfl ?_
  refine r_iload_n (q := 13) C 3 dX7_correct_12 rfl rfl ?_
  refine r_lload_n (q := 14) C 4 dX7_correct_13 rfl rfl ?_
  refine r_callS (q := 17) (As := [.int (nI f), .long (lN n)]) (st := []) C (c_fits_y hf hn) q154 q152 q153 q1 ⟨by decide, by decide⟩ (show (parseMethodDescriptor yX7_fits.desc).map (fun d => d.parameters.length) = some 2 by decide +kernel) (by decide) (by decide) (by decide) (by decide) (Nat.le_of_ble_eq_true rfl) rfl dX7_correct_14 rfl ?_
  rintro v9 w2 ⟨rfl, rfl⟩
  show V g k 7 w 0 0 (kQ g k (fun v w' => v = some (.int (-1)) ∧ TcAt g w' a0 tk gN rN tN fn wn gp by9 rD tD tV tT ∧ Fl w w') 3 536) 17 [(6, .ref (elk k9)), (0, .ref a0), (1, .int (nI k9)), (2, .int (nI f)), (3, .long (lN n)), (5, .int (nI ps))] [.int (nI 1)]
  refine r_if_eq_f (q := 20) (tgt := 31) C dX7_correct_17 (by decide) rfl (by decide) ?_
  refine r_bipush (q := 22) C (nI 7) dX7_correct_20 (by decide) rfl ?_
  refine r_iload (q := 24) C 5 dX7_correct_22 rfl rfl ?_
  refine r_i2l (q := 25) C dX7_correct_24 rfl ?_
  refine r_tl (show ((nI ps).toInt64 : Int64) = lN ps from nI_l (by omega)) ?_
  refine r_callS (q := 28) (As := [.int (nI 7), .long (lN ps)]) (st := []) C (c_fits_y (f := 7) (n := ps) hp7 hps) q154 q152 q153 q1 ⟨by decide, by decide⟩ (show (parseMethodDescriptor yX7_fits.desc).map (fun d => d.parameters.length) = some 2 by decide +kernel) (by decide) (by decide) (by decide) (by decide) (Nat.le_of_ble_eq_true rfl) rfl dX7_correct_25 rfl ?_
  rintro v9 w3 ⟨rfl, rfl⟩
  show V g k 7 w 0 0 (kQ g k (fun v w' => v = some (.int (-1)) ∧ TcAt g w' a0 tk gN rN tN fn wn gp by9 rD tD tV tT ∧ Fl w w') 3 536) 28 [(6, .ref (elk k9)), (0, .ref a0), (1, .int (nI k9)), (2, .int (nI f)), (3, .long (lN n)), (5, .int (nI ps))] [.int (nI 1)]
  refine r_if_ne_t (tgt := 33) C dX7_correct_28 (by decide) (by decide) ?_
  refine r_aload (q := 35) C 0 dX7_correct_33 rfl rfl ?_
  refine r_callV (q := 38) (t := (1000 + 3 * k9)) (As := []) (st := []) C koX6 o0 (c_isv_n o0 o1 ((o3 8 (by decide)).trans (by rw [fv9_n (by decide), hz]))) q413 q410 q411 q412 q17 rfl ⟨by decide, by decide⟩ (show (parseMethodDescriptor yX6_isVoid.desc).map (fun d => d.parameters.length) = some 0 by decide +kernel) (by decide) (by decide) (by decide) (by decide) (Nat.le_of_ble_eq_true rfl) rfl dX7_correct_35 rfl ?_
  rintro v9 w4 ⟨rfl, rfl⟩
  show V g k 7 w 0 0 (kQ g k (fun v w' => v = some (.int (-1)) ∧ TcAt g w' a0 tk gN rN tN fn wn gp by9 rD tD tV tT ∧ Fl w w') 3 536) 38 [(6, .ref (elk k9)), (0, .ref a0), (1, .int (nI k9)), (2, .int (nI f)), (3, .long (lN n)), (5, .int (nI ps))] [.int (nI 0)]
  refine r_if_ne_f (q := 41) (tgt := 61) C dX7_correct_38 (by decide) rfl (by decide) ?_
  refine r_aload (q := 43) C 0 dX7_correct_41 rfl rfl ?_
  refine r_iload_n (q := 44) C 3 dX7_correct_43 rfl rfl ?_
  refine r_lload_n (q := 45) C 4 dX7_correct_44 rfl rfl ?_
  have z1 := i4 k9 hk9 3 (by decide)
  have z2 := i4 k9 hk9 4 (by decide)
  have z3 : fmx9 3 = 1000000000 := rfl
  have z4 : fmx9 4 = 1000000000 := rfl
  have u3 : upN fn (9 * k9 + f) n (9 * k9 + 3) ≤ 8000000000 := by unfold upN; split <;> omega
  have u4 : upN fn (9 * k9 + f) n (9 * k9 + 4) ≤ 8000000000 := by unfold upN; split <;> omega
  have g9 := gr_9 (n := n) hf o3
  refine r_callV (q := 48) (t := (1000 + 3 * k9)) (As := [.int (nI f), .long (lN n)]) (st := []) C koX6 o0 (c_kn_n o0 o1 (by rw [g9.1, g9.2]; exact fun z => hle ((pk_lLE (by omega) (by omega)).mp z))) q417 q414 q415 q416 q17 rfl ⟨by decide, by decide⟩ (show (parseMethodDescriptor yX6_keepsNet.desc).map (fun d => d.parameters.length) = some 2 by decide +kernel) (by decide) (by decide) (by decide) (by decide) (Nat.le_of_ble_eq_true rfl) rfl dX7_correct_45 rfl ?_
  rintro v9 w5 ⟨rfl, rfl⟩
  show V g k 7 w 0 0 (kQ g k (fun v w' => v = some (.int (-1)) ∧ TcAt g w' a0 tk gN rN tN fn wn gp by9 rD tD tV tT ∧ Fl w w') 3 536) 48 [(6, .ref (elk k9)), (0, .ref a0), (1, .int (nI k9)), (2, .int (nI f)), (3, .long (lN n)), (5, .int (nI ps))] [.int (nI 0)]
  refine r_if_eq_t (tgt := 61) C dX7_correct_48 (by decide) (by decide) ?_
  refine r_iconst (q := 62) C ((-1)) dX7_correct_61 (by decide) rfl ?_
  exact r_iret C rfl (by decide) (by decide) dX7_correct_62 ⟨rfl, hT, Fl.rfl'⟩

set_option maxHeartbeats 4000000 in
set_option maxRecDepth 20000 in
theorem x_cr_y {l : Launch} {g : cx_G} {w : wd_T} {c a0 tk gN rN tN : Nat} {fn wn : Nat → Nat} {gp by9 rD tD tV tT : Nat → Int32} (hT : TcAt g w a0 tk gN rN tN fn wn gp by9 rD tD tV tT) (hI : Iv9 c tk gN rN tN fn wn by9 tD tV tT) {k9 : Nat} (hk9 : k9 < tk) {f n ps : Nat} (hf : cb9 f) (hn : n ≤ mx9 f) (hps : ps ≤ 999) (hz : fn (9 * k9 + 8) = 0) (hle : upN fn (9 * k9 + f) n (9 * k9 + 4) ≤ upN fn (9 * k9 + f) n (9 * k9 + 3)) : Mt l g yX7_correct cX7_correct 7 (some .int) 8 3 536 w [.ref a0, .int (nI k9), .int (nI f), .long (lN n), .int (nI ps)] (fun v w' => v = some (.int (nI rN)) ∧ TcAt g w' a0 tk gN (rN + 1) tN (upN fn (9 * k9 + f) n) wn gp (apR by9 rN (crB (fn (9 * k9)) f n ps)) (upd rD rN (nI (upN fn (9 * k9 + f) n (9 * k9 + 6) / 86400))) tD tV tT ∧ Fl w w') := by
  refine mt_of RX7 "correct" rfl rfl (by decide) (Nat.le_of_ble_eq_true rfl) [(0, .ref a0), (1, .int (nI k9)), (2, .int (nI f)), (3, .long (lN n)), (5, .int (nI ps))] rfl ?_
  intro k hkl C hin
  subst hkl
  have hTk := hT
  obtain ⟨a1, alb, alk, asp, a3, alr, asu, alv, af, asg, elb, elk, er, ab, gp9, T, t0, t1, t2, t3, t4, t5, t6, t7, t8⟩ := hTk
  obtain ⟨i0, i1, i2, i3, i4, i5, i6, i7, i8, i9, i10⟩ := id hI
  obtain ⟨atf, atw, ff, fw, o0, o1, o2, o3, o4⟩ := t5 k9 hk9
  have b8 := i4 k9 hk9 8 (by decide)
  have m8 : fmx9 8 = 99 := rfl
  have hm9 := mx9_le hf
  have hf9 := cb9_lt hf
  have hp7 : cb9 7 := by unfold cb9; omega
  refine r_aload_n (q := 1) C 0 dX7_correct_0 rfl rfl ?_
  refine r_iload_n (q := 2) C 1 dX7_correct_1 rfl rfl ?_
  refine r_callV (q := 5) (t := 100) (As := [.int (nI k9)]) (st := []) C koX7 t0 (c_findT_y t0 t4 (by omega) hk9 o0) q408 q405 q407 qp10 q1 rfl ⟨by decide, by decide⟩ (show (parseMethodDescriptor yX7_find.desc).map (fun d => d.parameters.length) = some 1 by decide +kernel) (by decide) (by decide) (by decide) (by decide) (Nat.le_of_ble_eq_true rfl) rfl dX7_correct_2 rfl ?_
  rintro v9 w1 ⟨rfl, rfl⟩
  show V g k 7 w 0 0 (kQ g k (fun v w' => v = some (.int (nI rN)) ∧ TcAt g w' a0 tk gN (rN + 1) tN (upN fn (9 * k9 + f) n) wn gp (apR by9 rN (crB (fn (9 * k9)) f n ps)) (upd rD rN (nI (upN fn (9 * k9 + f) n (9 * k9 + 6) / 86400))) tD tV tT ∧ Fl w w') 3 536) 5 [(0, .ref a0), (1, .int (nI k9)), (2, .int (nI f)), (3, .long (lN n)), (5, .int (nI ps))] [.ref (elk k9)]
  refine r_astore (q := 7) (lv' := [(6, .ref (elk k9)), (0, .ref a0), (1, .int (nI k9)), (2, .int (nI f)), (3, .long (lN n)), (5, .int (nI ps))]) C dX7_correct_5 (by decide) rfl rfl ?_
  refine r_aload (q := 9) C 0 dX7_correct_7 rfl rfl ?_
  refine r_ifnull (q := 12) C dX7_correct_9 rfl ?_
  refine r_iload_n (q := 13) C 3 dX7_correct_12 rfl rfl ?_
  refine r_lload_n (q := 14) C 4 dX7_correct_13 rfl rfl ?_
  refine r_callS (q := 17) (As := [.int (nI f), .long (lN n)]) (st := []) C (c_fits_y hf hn) q154 q152 q153 q1 ⟨by decide, by decide⟩ (show (parseMethodDescriptor yX7_fits.desc).map (fun d => d.parameters.length) = some 2 by decide +kernel) (by decide) (by decide) (by decide) (by decide) (Nat.le_of_ble_eq_true rfl) rfl dX7_correct_14 rfl ?_
  rintro v9 w2 ⟨rfl, rfl⟩
  show V g k 7 w 0 0 (kQ g k (fun v w' => v = some (.int (nI rN)) ∧ TcAt g w' a0 tk gN (rN + 1) tN (upN fn (9 * k9 + f) n) wn gp (apR by9 rN (crB (fn (9 * k9)) f n ps)) (upd rD rN (nI (upN fn (9 * k9 + f) n (9 * k9 + 6) / 86400))) tD tV tT ∧ Fl w w') 3 536) 17 [(6, .ref (elk k9)), (0, .ref a0), (1, .int (nI k9)), (2, .int (nI f)), (3, .long (lN n)), (5, .int (nI ps))] [.int (nI 1)]
  refine r_if_eq_f (q := 20) (tgt := 31) C dX7_correct_17 (by decide) rfl (by decide) ?_
  refine r_bipush (q := 22) C (nI 7) dX7_correct_20 (by decide) rfl ?_
  refine r_iload (q := 24) C 5 dX7_correct_22 rfl rfl ?_
  refine r_i2l (q := 25) C dX7_correct_24 rfl ?_
  refine r_tl (show ((nI ps).toInt64 : Int64) = lN ps from nI_l (by omega)) ?_
  refine r_callS (q := 28) (As := [.int (nI 7), .long (lN ps)]) (st := []) C (c_fits_y (f := 7) (n := ps) hp7 hps) q154 q152 q153 q1 ⟨by decide, by decide⟩ (show (parseMethodDescriptor yX7_fits.desc).map (fun d => d.parameters.length) = some 2 by decide +kernel) (by decide) (by decide) (by decide) (by decide) (Nat.le_of_ble_eq_true rfl) rfl dX7_correct_25 rfl ?_
  rintro v9 w3 ⟨rfl, rfl⟩
  show V g k 7 w 0 0 (kQ g k (fun v w' => v = some (.int (nI rN)) ∧ TcAt g w' a0 tk gN (rN + 1) tN (upN fn (9 * k9 + f) n) wn gp (apR by9 rN (crB (fn (9 * k9)) f n ps)) (upd rD rN (nI (upN fn (9 * k9 + f) n (9 * k9 + 6) / 86400))) tD tV tT ∧ Fl w w') 3 536) 28 [(6, .ref (elk k9)), (0, .ref a0), (1, .int (nI k9)), (2, .int (nI f)), (3, .long (lN n)), (5, .int (nI ps))] [.int (nI 1)]
  refine r_if_ne_t (tgt := 33) C dX7_correct_28 (by decide) (by decide) ?_
  refine r_aload (q := 35) C 0 dX7_correct_33 rfl rfl ?_
  refine r_callV (q := 38) (t := (1000 + 3 * k9)) (As := []) (st := []) C koX6 o0 (c_isv_n o0 o1 ((o3 8 (by decide)).trans (by rw [fv9_n (by decide), hz]))) q413 q410 q411 q412 q17 rfl ⟨by decide, by decide⟩ (show (parseMethodDescriptor yX6_isVoid.desc).map (fun d => d.parameters.length) = some 0 by decide +kernel) (by decide) (by decide) (by decide) (by decide) (Nat.le_of_ble_eq_true rfl) rfl dX7_correct_35 rfl ?_
  rintro v9 w4 ⟨rfl, rfl⟩
  show V g k 7 w 0 0 (kQ g k (fun v w' => v = some (.int (nI rN)) ∧ TcAt g w' a0 tk gN (rN + 1) tN (upN fn (9 * k9 + f) n) wn gp (apR by9 rN (crB (fn (9 * k9)) f n ps)) (upd rD rN (nI (upN fn (9 * k9 + f) n (9 * k9 + 6) / 86400))) tD tV tT ∧ Fl w w') 3 536) 38 [(6, .ref (elk k9)), (0, .ref a0), (1, .int (nI k9)), (2, .int (nI f)), (3, .long (lN n)), (5, .int (nI ps))] [.int (nI 0)]
  refine r_if_ne_f (q := 41) (tgt := 61) C dX7_correct_38 (by decide) rfl (by decide) ?_
  refine r_aload (q := 43) C 0 dX7_correct_41 rfl rfl ?_
  refine r_iload_n (q := 44) C 3 dX7_correct_43 rfl rfl ?_
  refine r_lload_n (q := 45) C 4 dX7_correct_44 rfl rfl ?_
  have z1 := i4 k9 hk9 3 (by decide)
  have z2 := i4 k9 hk9 4 (by decide)
  have z3 : fmx9 3 = 1000000000 := rfl
  have z4 : fmx9 4 = 1000000000 := rfl
  have u3 : upN fn (9 * k9 + f) n (9 * k9 + 3) ≤ 8000000000 := by unfold upN; split <;> omega
  have u4 : upN fn (9 * k9 + f) n (9 * k9 + 4) ≤ 8000000000 := by unfold upN; split <;> omega
  have g9 := gr_9 (n := n) hf o3
  refine r_callV (q := 48) (t := (1000 + 3 * k9)) (As := [.int (nI f), .long (lN n)]) (st := []) C koX6 o0 (c_kn_y o0 o1 (by rw [g9.1, g9.2]; exact (pk_lLE (by omega) (by omega)).mpr hle)) q417 q414 q415 q416 q17 rfl ⟨by decide, by decide⟩ (show (parseMethodDescriptor yX6_keepsNet.desc).map (fun d => d.parameters.length) = some 2 by decide +kernel) (by decide) (by decide) (by decide) (by decide) (Nat.le_of_ble_eq_true rfl) rfl dX7_correct_45 rfl ?_
  rintro v9 w5 ⟨rfl, rfl⟩
  show V g k 7 w 0 0 (kQ g k (fun v w' => v = some (.int (nI rN)) ∧ TcAt g w' a0 tk gN (rN + 1) tN (upN fn (9 * k9 + f) n) wn gp (apR by9 rN (crB (fn (9 * k9)) f n ps)) (upd rD rN (nI (upN fn (9 * k9 + f) n (9 * k9 + 6) / 86400))) tD tV tT ∧ Fl w w') 3 536) 48 [(6, .ref (elk k9)), (0, .ref a0), (1, .int (nI k9)), (2, .int (nI f)), (3, .long (lN n)), (5, .int (nI ps))] [.int (nI 1)]
  refine r_if_eq_f (q := 51) (tgt := 61) C dX7_correct_48 (by decide) rfl (by decide) ?_
  refine r_aload_n (q := 52) C 1 dX7_correct_51 rfl rfl ?_
  refine r_get (q := 55) (t := 100) C koX7 t0 5 (by decide) q130 rfl rfl dX7_correct_52 rfl ?_
  refine r_callV (q := 58) (t := 103) (As := []) (st := []) C koX0 t6.1 (c_isFull t6 (by omega)) q283 q280 q281 q282 q6 rfl ⟨by decide, by decide⟩ (show (parseMethodDescriptor yX0_isFull.desc).map (fun d => d.parameters.length) = some 0 by decide +kernel) (by decide) (by decide) (by decide) (by decide) (Nat.le_of_ble_eq_true rfl) rfl dX7_correct_55 rfl ?_
  rintro v9 w6 ⟨rfl, rfl⟩
  show V g k 7 w 0 0 (kQ g k (fun v w' => v = some (.int (nI rN)) ∧ TcAt g w' a0 tk gN (rN + 1) tN (upN fn (9 * k9 + f) n) wn gp (apR by9 rN (crB (fn (9 * k9)) f n ps)) (upd rD rN (nI (upN fn (9 * k9 + f) n (9 * k9 + 6) / 86400))) tD tV tT ∧ Fl w w') 3 536) 58 [(6, .ref (elk k9)), (0, .ref a0), (1, .int (nI k9)), (2, .int (nI f)), (3, .long (lN n)), (5, .int (nI ps))] [.int (nI 0)]
  refine r_if_eq_t (tgt := 63) C dX7_correct_58 (by decide) (by decide) ?_
  refine r_aload (q := 65) C 0 dX7_correct_63 rfl rfl ?_
  refine r_iload_n (q := 66) C 3 dX7_correct_65 rfl rfl ?_
  refine r_lload_n (q := 67) C 4 dX7_correct_66 rfl rfl ?_
  refine r_callV (q := 70) (t := (1000 + 3 * k9)) (As := [.int (nI f), .long (lN n)]) (st := []) C koX6 o0 (c_put (t := 1000 + 3 * k9) (x := lN n) o0 o1 (i := f) (by omega)) q421 q418 q419 q420 q17 rfl ⟨by decide, by decide⟩ (show (parseMethodDescriptor yX6_put.desc).map (fun d => d.parameters.length) = some 2 by decide +kernel) (by decide) (by decide) (by decide) (by decide) (Nat.le_of_ble_eq_true rfl) rfl dX7_correct_67 rfl ?_
  rintro v9 w5 ⟨rfl, e0, ef5⟩
  have p9 := put9 (k := k9) (i := f) (x := n) (by omega) o3 hle
  have k5 : ∀ t, t ≠ 1000 + 3 * k9 + 1 → w5 t = w t := fun t ht => ef5 t (by omega)
  show V g k 7 w5 0 0 (kQ g k (fun v w' => v = some (.int (nI rN)) ∧ TcAt g w' a0 tk gN (rN + 1) tN (upN fn (9 * k9 + f) n) wn gp (apR by9 rN (crB (fn (9 * k9)) f n ps)) (upd rD rN (nI (upN fn (9 * k9 + f) n (9 * k9 + 6) / 86400))) tD tV tT ∧ Fl w w') 3 536) 70 [(6, .ref (elk k9)), (0, .ref a0), (1, .int (nI k9)), (2, .int (nI f)), (3, .long (lN n)), (5, .int (nI ps))] []
  refine r_aload_n (q := 71) C 1 dX7_correct_70 rfl rfl ?_
  refine r_get (q := 74) (t := 100) C koX7 ((k5 100 (by omega)).trans t0) 5 (by decide) q130 rfl rfl dX7_correct_71 rfl ?_
  refine r_aload (q := 76) C 0 dX7_correct_74 rfl rfl ?_
  refine r_iload_n (q := 77) C 3 dX7_correct_76 rfl rfl ?_
  refine r_lload_n (q := 78) C 4 dX7_correct_77 rfl rfl ?_
  refine r_iload (q := 80) C 5 dX7_correct_78 rfl rfl ?_
  have hs6 : fv9 (upN fn (9 * k9 + f) n) k9 6 ≤ 8000000000 := by
    have := i4 k9 hk9 6 (by decide)
    have m6 : fmx9 6 = 8000000000 := rfl
    rw [fv9_n (by decide)]
    unfold upN
    split
    · have := mx9_le hf; omega
    · omega
  refine r_callS (q := 83) (As := [.ref (elk k9), .int (nI f), .long (lN n), .int (nI ps)]) (st := [.ref a3]) C (c_correctionRow (t := 1000 + 3 * k9) (n := rN) (vf := fv9 (upN fn (9 * k9 + f) n) k9) (by omega) (by omega) ((k5 _ (by omega)).trans o0) e0 p9 hs6 (by omega) (by omega)) q424 q422 q423 q1 ⟨by decide, by decide⟩ (show (parseMethodDescriptor yX7_correctionRow.desc).map (fun d => d.parameters.length) = some 4 by decide +kernel) (by decide) (by decide) (by decide) (by decide) (Nat.le_of_ble_eq_true rfl) rfl dX7_correct_80 rfl ?_
  rintro v9 w6 ⟨ar, br, nr, rfl, r0, r1, ef6⟩
  rw [fv9_n (by decide), upN_ne (show 9 * k9 + 0 ≠ 9 * k9 + f by omega)] at r1
  rw [fv9_n (by decide)] at r0
  have k6 : ∀ t, t ≠ 1000 + 3 * k9 + 1 → (t < 2000 + 2 * rN ∨ 2002 + 2 * rN ≤ t) → w6 t = w t := fun t a b => (ef6 t b).trans (k5 t a)
  have c6 : ChAt g w6 a3 alr asu alv rN er ab by9 rD := by
    obtain ⟨q1, q2, q3, q4, lev, q5, q6⟩ := t6
    exact ⟨(k6 103 (by omega) (by omega)).trans q1, q2.keptR (k6 126 (by omega) (by omega)) (k6 127 (by omega) (by omega)) (fun j hj => k6 _ (by omega) (by omega)), q3.kept (fun t a b => k6 t (by omega) (by omega)), q4.kept (fun t a b => k6 t (by omega) (by omega)), lev, (k6 114 (by omega) (by omega)).trans q5, q6⟩
  show V g k 7 w6 2 76 (kQ g k (fun v w' => v = some (.int (nI rN)) ∧ TcAt g w' a0 tk gN (rN + 1) tN (upN fn (9 * k9 + f) n) wn gp (apR by9 rN (crB (fn (9 * k9)) f n ps)) (upd rD rN (nI (upN fn (9 * k9 + f) n (9 * k9 + 6) / 86400))) tD tV tT ∧ Fl w w') 3 536) 83 [(6, .ref (elk k9)), (0, .ref a0), (1, .int (nI k9)), (2, .int (nI f)), (3, .long (lN n)), (5, .int (nI ps))] [.ref ar, .ref a3]
  refine r_callV (q := 86) (t := 103) (As := [.ref ar]) (st := []) C koX0 c6.1 (c_append c6 (by omega) r0 r1) q337 q334 q335 q336 q6 rfl ⟨by decide, by decide⟩ (show (parseMethodDescriptor yX0_append.desc).map (fun d => d.parameters.length) = some 1 by decide +kernel) (by decide) (by decide) (by decide) (by decide) (Nat.le_of_ble_eq_true rfl) rfl dX7_correct_83 rfl ?_
  rintro v9 w7 ⟨rfl, c7, ef7⟩
  show V g k 7 w7 3 536 (kQ g k (fun v w' => v = some (.int (nI rN)) ∧ TcAt g w' a0 tk gN (rN + 1) tN (upN fn (9 * k9 + f) n) wn gp (apR by9 rN (crB (fn (9 * k9)) f n ps)) (upd rD rN (nI (upN fn (9 * k9 + f) n (9 * k9 + 6) / 86400))) tD tV tT ∧ Fl w w') 3 536) 86 [(6, .ref (elk k9)), (0, .ref a0), (1, .int (nI k9)), (2, .int (nI f)), (3, .long (lN n)), (5, .int (nI ps))] [.int (nI rN)]
  have k7 : ∀ t, (t ≠ 1000 + 3 * k9 + 1 ∧ (t < 110 ∨ 114 ≤ t) ∧ (t < 126 ∨ 129 ≤ t) ∧ (t < 2000 ∨ 3000 ≤ t)) → w7 t = w t := fun t a => (ef7 t a.2.1 a.2.2.1 (by omega)).trans (k6 t a.1 (by omega))
  refine r_iret C rfl (by decide) (by decide) dX7_correct_86 ⟨rfl, ⟨a1, alb, alk, asp, a3, alr, asu, alv, af, asg, elb, elk, va_up er rN ar, va_up ab rN br, gp9, T, (k7 100 (by omega)).trans t0, (k7 102 (by omega)).trans t1, t2, t3.kept (by omega) (fun t ht => k7 t (by omega)), t4.kept (k7 123 (by omega)) (k7 124 (by omega)) (fun j hj q => q.kept (k7 _ (by show 1000 + 3 * j ≠ _ ∧ _; omega))), ?_, c7, t7.kept (k7 115 (by omega)) (k7 116 (by omega)), t8⟩, fun t ht => k7 t (by omega)⟩
  intro k8 hk8
  by_cases z : k8 = k9
  · subst z
    exact ⟨atf, atw, _, fw, (k7 _ (by omega)).trans o0, (ef7 _ (by omega) (by omega) (by omega)).trans ((ef6 _ (by omega)).trans e0), (k7 _ (by omega)).trans o2, p9, o4⟩
  · obtain ⟨atf2, atw2, ff2, fw2, p0, p1, p2, p3, p4⟩ := t5 k8 hk8
    exact ⟨atf2, atw2, ff2, fw2, (k7 _ (by omega)).trans p0, (k7 _ (by omega)).trans p1, (k7 _ (by omega)).trans p2, fun j hj => by rw [fv9_o z (by omega) hj]; exact p3 j hj, p4⟩
