/-! TicketChain: what stands for the state, and the methods that are called -/
def fmx9 (i : Nat) : Nat := [999, 99, 9, 1000000000, 1000000000, 0, 8000000000, 999, 99].getD i 0
def Iv9 (c tk gN rN tN : Nat) (fn wn : Nat → Nat) (by9 tD tV tT : Nat → Int32) : Prop :=
  c ≤ 48 ∧ tk + gN ≤ c ∧ rN ≤ c ∧ tN ≤ c ∧ (∀ k, k < tk → ∀ i, i < 9 → fn (9 * k + i) ≤ fmx9 i ∨ i = 5) ∧ (∀ k, k < tk → fn (9 * k + 4) ≤ fn (9 * k + 3)) ∧ (∀ p, wn p ≤ 1000000) ∧ (∀ p, 8 * tk ≤ p → wn p = 0) ∧ sb_Fit by9 ∧ (∀ j, j < tN → ∃ n, n ≤ 1000000000 ∧ tT j = nI n) ∧ ∀ i j, i < tN → j < tN → tD i = tD j → tV i = tV j → i = j
/-- the tickets: tags 1000 + 3 k and the two behind it -/
def TksAt (g : cx_G) (w : wd_T) (n : Nat) (el : Nat → Nat) (fn wn : Nat → Nat) : Prop := ∀ k9, k9 < n → ∃ (atf atw : Nat) (ff fw : Nat → Int64), w (1000 + 3 * k9) = some (el k9, ob 6 [.ref atf, .ref atw]) ∧ w (1000 + 3 * k9 + 1) = some (atf, aL g 9 ff) ∧ w (1000 + 3 * k9 + 2) = some (atw, aL g 8 fw) ∧ (∀ i, i < 9 → ff i = lN (fv9 fn k9 i)) ∧ ∀ i, i < 8 → fw i = lN (wn (8 * k9 + i))
def TcAt (g : cx_G) (w : wd_T) (a0 tk gN rN tN : Nat) (fn wn : Nat → Nat) (gp by9 rD tD tV tT : Nat → Int32) : Prop := ∃ (a1 alb alk asp a3 alr asu alv af asg : Nat) (elb elk er ab : Nat → Nat) (gp' : Nat → Int32) (T : List Int32),
  w 100 = some (a0, ob 7 [.ref a1, .ref alk, .ref asp, .int (nI gN), .int (nI (tk + gN)), .ref a3, .ref af]) ∧ w 102 = some (asp, aI g 400 gp') ∧ (∀ j, j < gN → gp' j = gp j) ∧ BkAt g w a1 alb tN elb tD tV tT ∧ LsAt g w 123 alk tk elk (fun j => 1000 + 3 * j) ∧ TksAt g w tk elk fn wn ∧ ChAt g w a3 alr asu alv rN er ab by9 rD ∧ FmAt g w af asg T ∧ T.length ≤ 62
theorem BkAt.kept {g : cx_G} {w w' : wd_T} {a1 al n : Nat} {el : Nat → Nat} {tD tV tT : Nat → Int32} (h : BkAt g w a1 al n el tD tV tT) (hn : n ≤ 200) (e : ∀ t, t = 101 ∨ (120 ≤ t ∧ t < 123) ∨ (3000 ≤ t ∧ t ≤ 3200) → w' t = w t) : BkAt g w' a1 al n el tD tV tT :=
  ⟨(e 101 (by omega)).trans h.1, h.2.1.kept (e 120 (by omega)) (e 121 (by omega)) (fun j hj q => q.kept (e (3000 + j) (by omega))), fun j hj => (e (3000 + j) (by omega)).trans (h.2.2 j hj)⟩
theorem TksAt.kept {g : cx_G} {w w' : wd_T} {n : Nat} {el : Nat → Nat} {fn wn : Nat → Nat} (h : TksAt g w n el fn wn) (hn : n ≤ 300) (e : ∀ t, 1000 ≤ t → t < 2000 → w' t = w t) : TksAt g w' n el fn wn := by
  intro k9 hk
  obtain ⟨atf, atw, ff, fw, o0, o1, o2, o3, o4⟩ := h k9 hk
  exact ⟨atf, atw, ff, fw, (e _ (by omega) (by omega)).trans o0, (e _ (by omega) (by omega)).trans o1, (e _ (by omega) (by omega)).trans o2, o3, o4⟩
theorem LsAt.keptT {g : cx_G} {w w' : wd_T} {al n : Nat} {el : Nat → Nat} (h : LsAt g w 123 al n el (fun j => 1000 + 3 * j)) (hn : n ≤ 300) (e0 : w' 123 = w 123) (e1 : w' 124 = w 124) (e2 : ∀ t, 1000 ≤ t → t < 2000 → w' t = w t) : LsAt g w' 123 al n el (fun j => 1000 + 3 * j) := h.kept e0 e1 (fun j hj q => q.kept (e2 _ (by show 1000 ≤ 1000 + 3 * j; omega) (by show 1000 + 3 * j < 2000; omega)))
theorem ChAt.keptC {g : cx_G} {w w' : wd_T} {a3 alr asu alv n : Nat} {er ab : Nat → Nat} {by9 rD : Nat → Int32} (h : ChAt g w a3 alr asu alv n er ab by9 rD) (hn : n ≤ 300) (e : ∀ t, t = 103 ∨ (110 ≤ t ∧ t < 115) ∨ (126 ≤ t ∧ t < 129) ∨ (2000 ≤ t ∧ t < 3000) → w' t = w t) : ChAt g w' a3 alr asu alv n er ab by9 rD := by
  obtain ⟨h1, h2, h3, h4, lev, h5, h6⟩ := h
  exact ⟨(e _ (by omega)).trans h1, h2.keptR (e _ (by omega)) (e _ (by omega)) (fun j hj => e _ (by omega)), h3.kept (fun t a b => e t (by omega)), h4.kept (fun t a b => e t (by omega)), lev, (e _ (by omega)).trans h5, h6⟩
theorem TcAt.kept {g : cx_G} {w w' : wd_T} {a0 c tk gN rN tN : Nat} {fn wn : Nat → Nat} {gp by9 rD tD tV tT : Nat → Int32} (h : TcAt g w a0 tk gN rN tN fn wn gp by9 rD tD tV tT) (hI : Iv9 c tk gN rN tN fn wn by9 tD tV tT) (e : ∀ t, 100 ≤ t → w' t = w t) : TcAt g w' a0 tk gN rN tN fn wn gp by9 rD tD tV tT := by
  obtain ⟨a1, alb, alk, asp, a3, alr, asu, alv, af, asg, elb, elk, er, ab, gp', T, t0, t1, t2, t3, t4, t5, t6, t7, t8⟩ := h
  obtain ⟨i0, i1, i2, i3, -⟩ := hI
  exact ⟨a1, alb, alk, asp, a3, alr, asu, alv, af, asg, elb, elk, er, ab, gp', T, (e _ (by omega)).trans t0, (e _ (by omega)).trans t1, t2, t3.kept (by omega) (fun t ht => e t (by omega)), t4.keptT (by omega) (e _ (by omega)) (e _ (by omega)) (fun t a b => e t (by omega)), t5.kept (by omega) (fun t a b => e t (by omega)), t6.keptC (by omega) (fun t ht => e t (by omega)), t7.kept (e _ (by omega)) (e _ (by omega)), t8⟩
def Fl (w w' : wd_T) : Prop := ∀ t, t < 100 → w' t = w t
theorem Fl.rfl' {w : wd_T} : Fl w w := fun _ _ => rfl
theorem fv9_lt {c tk gN rN tN k : Nat} {fn wn : Nat → Nat} {by9 tD tV tT : Nat → Int32} (hI : Iv9 c tk gN rN tN fn wn by9 tD tV tT) (hk : k < tk) : ∀ i, i < 9 → fv9 fn k i < 10 ^ wd9 i ∧ fv9 fn k i ≤ 8000000000 := by
  intro i hi
  have a3 := hI.2.2.2.2.1 k hk 3 (by decide)
  have a4 := hI.2.2.2.2.1 k hk 4 (by decide)
  have n3 := hI.2.2.2.2.2.1 k hk
  have m3 : fmx9 3 = 1000000000 := rfl
  have ai := hI.2.2.2.2.1 k hk i hi
  unfold fv9
  by_cases z : i = 5
  · rw [if_pos z]
    subst z
    have w5 : 10 ^ wd9 5 = 10000000000 := by decide
    omega
  · rw [if_neg z]
    have q : ∀ i, i < 9 → ¬ i = 5 → fmx9 i < 10 ^ wd9 i ∧ fmx9 i ≤ 8000000000 := by decide
    have := q i hi z
    omega
theorem fv9_fb {c tk gN rN tN k : Nat} {fn wn : Nat → Nat} {by9 tD tV tT : Nat → Int32} (hI : Iv9 c tk gN rN tN fn wn by9 tD tV tT) (hk : k < tk) : Fb9 (fv9 fn k) := by
  refine ⟨fun i hi => (fv9_lt hI hk i hi).1, ?_, ?_⟩
  · have a3 := hI.2.2.2.2.1 k hk 3 (by decide)
    have m3 : fmx9 3 = 1000000000 := rfl
    have e3 : fv9 fn k 3 = fn (9 * k + 3) := if_neg (by decide)
    omega
  · have n3 := hI.2.2.2.2.2.1 k hk
    have e3 : fv9 fn k 3 = fn (9 * k + 3) := if_neg (by decide)
    have e4 : fv9 fn k 4 = fn (9 * k + 4) := if_neg (by decide)
    have e5 : fv9 fn k 5 = fn (9 * k + 3) - fn (9 * k + 4) := if_pos rfl
    omega
/-- a customer's weights of a ticket, as longs -/
def cw9 (wn : Nat → Nat) (k : Nat) : Nat → Int64 := fun j => lN (wn (8 * k + j))
def shr9 (fn wn : Nat → Nat) (k i : Nat) : Int64 := if lN 0 < tlS (cw9 wn k) 8 then shA (if fn (9 * k + 8) = 0 then lN (fv9 fn k 5) else lN 0) (tlS (cw9 wn k) 8) (cw9 wn k) i else -1
def upN (f : Nat → Nat) (a b : Nat) : Nat → Nat := fun p => if p = a then b else f p
set_option maxHeartbeats 4000000 in
set_option maxRecDepth 20000 in
theorem x_at_n {l : Launch} {g : cx_G} {w : wd_T} {c a0 tk gN rN tN : Nat} {fn wn : Nat → Nat} {gp by9 rD tD tV tT : Nat → Int32} (hT : TcAt g w a0 tk gN rN tN fn wn gp by9 rD tD tV tT) (hI : Iv9 c tk gN rN tN fn wn by9 tD tV tT) {x : Int32} (hx : x < 0 ∨ nI tk ≤ x) {y : Int32} : Mt l g yX7_at cX7_at 4 (some .long) 4 0 0 w [.ref a0, .int x, .int y] (fun v w' => v = some (.long (-1)) ∧ TcAt g w' a0 tk gN rN tN fn wn gp by9 rD tD tV tT ∧ Fl w w') := by
  refine mt_of RX7 "at" rfl rfl (by decide) (Nat.le_of_ble_eq_true rfl) [(0, .ref a0), (1, .int x), (2, .int y)] rfl ?_
  intro k hkl C hin
  subst hkl
  have hTk := hT
  obtain ⟨a1, alb, alk, asp, a3, alr, asu, alv, af, asg, elb, elk, er, ab, gp9, T, t0, t1, t2, t3, t4, t5, t6, t7, t8⟩ := hTk
  obtain ⟨i0, i1, i2, i3, i4, i5, i6, i7, i8, i9, i10⟩ := id hI
  refine r_aload_n (q := 1) C 0 dX7_at_0 rfl rfl ?_
  refine r_iload_n (q := 2) C 1 dX7_at_1 rfl rfl ?_
  refine r_callV (q := 5) (t := 100) (As := [.int x]) (st := []) C koX7 t0 (c_findT_n t0 t4 (by omega) hx) q408 q405 q407 qp10 q1 rfl ⟨by decide, by decide⟩ (show (parseMethodDescriptor yX7_find.desc).map (fun d => d.parameters.length) = some 1 by decide +kernel) (by decide) (by decide) (by decide) (by decide) (Nat.le_of_ble_eq_true rfl) rfl dX7_at_2 rfl ?_
  rintro v9 w1 ⟨rfl, rfl⟩
  show V g k 4 w 0 0 (kQ g k (fun v w' => v = some (.long (-1)) ∧ TcAt g w' a0 tk gN rN tN fn wn gp by9 rD tD tV tT ∧ Fl w w') 0 0) 5 [(0, .ref a0), (1, .int x), (2, .int y)] [.null]
  refine r_astore_nN (q := 6) (lv' := [(3, .null), (0, .ref a0), (1, .int x), (2, .int y)]) C dX7_at_5 (by decide) rfl rfl ?_
  refine r_aload_nN (q := 7) C 0 dX7_at_6 rfl rfl ?_
  refine r_ifnonnullN (q := 10) C dX7_at_7 rfl ?_
  refine r_ldc2 (q := 13) (v := (-1)) C dX7_at_10 q163 rfl ?_
  refine r_goto (tgt := 21) C dX7_at_13 (by decide) ?_
  exact r_lret C rfl (by decide) (by decide) dX7_at_21 ⟨rfl, hT, Fl.rfl'⟩

set_option maxHeartbeats 4000000 in
set_option maxRecDepth 20000 in
theorem x_at_y {l : Launch} {g : cx_G} {w : wd_T} {c a0 tk gN rN tN : Nat} {fn wn : Nat → Nat} {gp by9 rD tD tV tT : Nat → Int32} (hT : TcAt g w a0 tk gN rN tN fn wn gp by9 rD tD tV tT) (hI : Iv9 c tk gN rN tN fn wn by9 tD tV tT) {k9 : Nat} (hk9 : k9 < tk) {i : Nat} (hi : i < 9) : Mt l g yX7_at cX7_at 4 (some .long) 4 0 0 w [.ref a0, .int (nI k9), .int (nI i)] (fun v w' => v = some (.long (lN (fv9 fn k9 i))) ∧ TcAt g w' a0 tk gN rN tN fn wn gp by9 rD tD tV tT ∧ Fl w w') := by
  refine mt_of RX7 "at" rfl rfl (by decide) (Nat.le_of_ble_eq_true rfl) [(0, .ref a0), (1, .int (nI k9)), (2, .int (nI i))] rfl ?_
  intro k hkl C hin
  subst hkl
  have hTk := hT
  obtain ⟨a1, alb, alk, asp, a3, alr, asu, alv, af, asg, elb, elk, er, ab, gp9, T, t0, t1, t2, t3, t4, t5, t6, t7, t8⟩ := hTk
  obtain ⟨i0, i1, i2, i3, i4, i5, i6, i7, i8, i9, i10⟩ := id hI
  obtain ⟨atf, atw, ff, fw, o0, o1, o2, o3, o4⟩ := t5 k9 hk9
  refine r_aload_n (q := 1) C 0 dX7_at_0 rfl rfl ?_
  refine r_iload_n (q := 2) C 1 dX7_at_1 rfl rfl ?_
  refine r_callV (q := 5) (t := 100) (As := [.int (nI k9)]) (st := []) C koX7 t0 (c_findT_y t0 t4 (by omega) hk9 o0) q408 q405 q407 qp10 q1 rfl ⟨by decide, by decide⟩ (show (parseMethodDescriptor yX7_find.desc).map (fun d => d.parameters.length) = some 1 by decide +kernel) (by decide) (by decide) (by decide) (by decide) (Nat.le_of_ble_eq_true rfl) rfl dX7_at_2 rfl ?_
  rintro v9 w1 ⟨rfl, rfl⟩
  show V g k 4 w 0 0 (kQ g k (fun v w' => v = some (.long (lN (fv9 fn k9 i))) ∧ TcAt g w' a0 tk gN rN tN fn wn gp by9 rD tD tV tT ∧ Fl w w') 0 0) 5 [(0, .ref a0), (1, .int (nI k9)), (2, .int (nI i))] [.ref (elk k9)]
  refine r_astore_n (q := 6) (lv' := [(3, .ref (elk k9)), (0, .ref a0), (1, .int (nI k9)), (2, .int (nI i))]) C dX7_at_5 (by decide) rfl rfl ?_
  refine r_aload_n (q := 7) C 0 dX7_at_6 rfl rfl ?_
  refine r_ifnonnull (tgt := 16) C dX7_at_7 (by decide) ?_
  refine r_aload_n (q := 17) C 0 dX7_at_16 rfl rfl ?_
  refine r_iload_n (q := 18) C 3 dX7_at_17 rfl rfl ?_
  refine r_callV (q := 21) (t := (1000 + 3 * k9)) (As := [.int (nI i)]) (st := []) C koX6 o0 (c_fld_y o0 o1 hi) q312 q309 q310 q311 q17 rfl ⟨by decide, by decide⟩ (show (parseMethodDescriptor yX6_field.desc).map (fun d => d.parameters.length) = some 1 by decide +kernel) (by decide) (by decide) (by decide) (by decide) (Nat.le_of_ble_eq_true rfl) rfl dX7_at_18 rfl ?_
  rintro v9 w2 ⟨rfl, rfl⟩
  show V g k 4 w 0 0 (kQ g k (fun v w' => v = some (.long (lN (fv9 fn k9 i))) ∧ TcAt g w' a0 tk gN rN tN fn wn gp by9 rD tD tV tT ∧ Fl w w') 0 0) 21 [(3, .ref (elk k9)), (0, .ref a0), (1, .int (nI k9)), (2, .int (nI i))] [.long (ff i)]
  exact r_lret C rfl (by decide) (by decide) dX7_at_21 ⟨by rw [o3 i hi], hT, Fl.rfl'⟩

set_option maxHeartbeats 4000000 in
set_option maxRecDepth 20000 in
theorem x_at_f {l : Launch} {g : cx_G} {w : wd_T} {c a0 tk gN rN tN : Nat} {fn wn : Nat → Nat} {gp by9 rD tD tV tT : Nat → Int32} (hT : TcAt g w a0 tk gN rN tN fn wn gp by9 rD tD tV tT) (hI : Iv9 c tk gN rN tN fn wn by9 tD tV tT) {k9 : Nat} (hk9 : k9 < tk) {y : Int32} (hy : y < 0 ∨ nI 9 ≤ y) : Mt l g yX7_at cX7_at 4 (some .long) 4 0 0 w [.ref a0, .int (nI k9), .int y] (fun v w' => v = some (.long (-1)) ∧ TcAt g w' a0 tk gN rN tN fn wn gp by9 rD tD tV tT ∧ Fl w w') := by
  refine mt_of RX7 "at" rfl rfl (by decide) (Nat.le_of_ble_eq_true rfl) [(0, .ref a0), (1, .int (nI k9)), (2, .int y)] rfl ?_
  intro k hkl C hin
  subst hkl
  have hTk := hT
  obtain ⟨a1, alb, alk, asp, a3, alr, asu, alv, af, asg, elb, elk, er, ab, gp9, T, t0, t1, t2, t3, t4, t5, t6, t7, t8⟩ := hTk
  obtain ⟨i0, i1, i2, i3, i4, i5, i6, i7, i8, i9, i10⟩ := id hI
  obtain ⟨atf, atw, ff, fw, o0, o1, o2, o3, o4⟩ := t5 k9 hk9
  refine r_aload_n (q := 1) C 0 dX7_at_0 rfl rfl ?_
  refine r_iload_n (q := 2) C 1 dX7_at_1 rfl rfl ?_
  refine r_callV (q := 5) (t := 100) (As := [.int (nI k9)]) (st := []) C koX7 t0 (c_findT_y t0 t4 (by omega) hk9 o0) q408 q405 q407 qp10 q1 rfl ⟨by decide, by decide⟩ (show (parseMethodDescriptor yX7_find.desc).map (fun d => d.parameters.length) = some 1 by decide +kernel) (by decide) (by decide) (by decide) (by decide) (Nat.le_of_ble_eq_true rfl) rfl dX7_at_2 rfl ?_
  rintro v9 w1 ⟨rfl, rfl⟩
  show V g k 4 w 0 0 (kQ g k (fun v w' => v = some (.long (-1)) ∧ TcAt g w' a0 tk gN rN tN fn wn gp by9 rD tD tV tT ∧ Fl w w') 0 0) 5 [(0, .ref a0), (1, .int (nI k9)), (2, .int y)] [.ref (elk k9)]
  refine r_astore_n (q := 6) (lv' := [(3, .ref (elk k9)), (0, .ref a0), (1, .int (nI k9)), (2, .int y)]) C dX7_at_5 (by decide) rfl rfl ?_
  refine r_aload_n (q := 7) C 0 dX7_at_6 rfl rfl ?_
  refine r_ifnonnull (tgt := 16) C dX7_at_7 (by decide) ?_
  refine r_aload_n (q := 17) C 0 dX7_at_16 rfl rfl ?_
  refine r_iload_n (q := 18) C 3 dX7_at_17 rfl rfl ?_
  refine r_callV (q := 21) (t := (1000 + 3 * k9)) (As := [.int y]) (st := []) C koX6 o0 (c_fld_n o0 o1 hy) q312 q309 q310 q311 q17 rfl ⟨by decide, by decide⟩ (show (parseMethodDescriptor yX6_field.desc).map (fun d => d.parameters.length) = some 1 by decide +kernel) (by decide) (by decide) (by decide) (by decide) (Nat.le_of_ble_eq_true rfl) rfl dX7_at_18 rfl ?_
  rintro v9 w2 ⟨rfl, rfl⟩
  show V g k 4 w 0 0 (kQ g k (fun v w' => v = some (.long (-1)) ∧ TcAt g w' a0 tk gN rN tN fn wn gp by9 rD tD tV tT ∧ Fl w w') 0 0) 21 [(3, .ref (elk k9)), (0, .ref a0), (1, .int (nI k9)), (2, .int y)] [.long (-1)]
  exact r_lret C rfl (by decide) (by decide) dX7_at_21 ⟨rfl, hT, Fl.rfl'⟩

set_option maxHeartbeats 4000000 in
set_option maxRecDepth 20000 in
theorem x_num_n {l : Launch} {g : cx_G} {w : wd_T} {c a0 tk gN rN tN : Nat} {fn wn : Nat → Nat} {gp by9 rD tD tV tT : Nat → Int32} (hT : TcAt g w a0 tk gN rN tN fn wn gp by9 rD tD tV tT) (hI : Iv9 c tk gN rN tN fn wn by9 tD tV tT) {x : Int32} (hx : x < 0 ∨ nI tk ≤ x) : Mt l g yX7_number cX7_number 3 (some .int) 4 0 0 w [.ref a0, .int x] (fun v w' => v = some (.int (-1)) ∧ TcAt g w' a0 tk gN rN tN fn wn gp by9 rD tD tV tT ∧ Fl w w') := by
  refine mt_of RX7 "number" rfl rfl (by decide) (Nat.le_of_ble_eq_true rfl) [(0, .ref a0), (1, .int x)] rfl ?_
  intro k hkl C hin
  subst hkl
  have hTk := hT
  obtain ⟨a1, alb, alk, asp, a3, alr, asu, alv, af, asg, elb, elk, er, ab, gp9, T, t0, t1, t2, t3, t4, t5, t6, t7, t8⟩ := hTk
  obtain ⟨i0, i1, i2, i3, i4, i5, i6, i7, i8, i9, i10⟩ := id hI
  refine r_aload_n (q := 1) C 0 dX7_number_0 rfl rfl ?_
  refine r_iload_n (q := 2) C 1 dX7_number_1 rfl rfl ?_
  refine r_callV (q := 5) (t := 100) (As := [.int x]) (st := []) C koX7 t0 (c_findT_n t0 t4 (by omega) hx) q408 q405 q407 qp10 q1 rfl ⟨by decide, by decide⟩ (show (parseMethodDescriptor yX7_find.desc).map (fun d => d.parameters.length) = some 1 by decide +kernel) (by decide) (by decide) (by decide) (by decide) (Nat.le_of_ble_eq_true rfl) rfl dX7_number_2 rfl ?_
  rintro v9 w1 ⟨rfl, rfl⟩
  show V g k 3 w 0 0 (kQ g k (fun v w' => v = some (.int (-1)) ∧ TcAt g w' a0 tk gN rN tN fn wn gp by9 rD tD tV tT ∧ Fl w w') 0 0) 5 [(0, .ref a0), (1, .int x)] [.null]
  refine r_astore_nN (q := 6) (lv' := [(2, .null), (0, .ref a0), (1, .int x)]) C dX7_number_5 (by decide) rfl rfl ?_
  refine r_aload_nN (q := 7) C 0 dX7_number_6 rfl rfl ?_
  refine r_ifnonnullN (q := 10) C dX7_number_7 rfl ?_
  refine r_iconst (q := 11) C ((-1)) dX7_number_10 (by decide) rfl ?_
  refine r_goto (tgt := 20) C dX7_number_11 (by decide) ?_
  exact r_iret C rfl (by decide) (by decide) dX7_number_20 ⟨rfl, hT, Fl.rfl'⟩

set_option maxHeartbeats 4000000 in
set_option maxRecDepth 20000 in
theorem x_num_y {l : Launch} {g : cx_G} {w : wd_T} {c a0 tk gN rN tN : Nat} {fn wn : Nat → Nat} {gp by9 rD tD tV tT : Nat → Int32} (hT : TcAt g w a0 tk gN rN tN fn wn gp by9 rD tD tV tT) (hI : Iv9 c tk gN rN tN fn wn by9 tD tV tT) {k9 : Nat} (hk9 : k9 < tk) : Mt l g yX7_number cX7_number 3 (some .int) 4 0 0 w [.ref a0, .int (nI k9)] (fun v w' => v = some (.int (nI (fn (9 * k9)))) ∧ TcAt g w' a0 tk gN rN tN fn wn gp by9 rD tD tV tT ∧ Fl w w') := by
  refine mt_of RX7 "number" rfl rfl (by decide) (Nat.le_of_ble_eq_true rfl) [(0, .ref a0), (1, .int (nI k9))] rfl ?_
  intro k hkl C hin
  subst hkl
  have hTk := hT
  obtain ⟨a1, alb, alk, asp, a3, alr, asu, alv, af, asg, elb, elk, er, ab, gp9, T, t0, t1, t2, t3, t4, t5, t6, t7, t8⟩ := hTk
  obtain ⟨i0, i1, i2, i3, i4, i5, i6, i7, i8, i9, i10⟩ := id hI
  obtain ⟨atf, atw, ff, fw, o0, o1, o2, o3, o4⟩ := t5 k9 hk9
  refine r_aload_n (q := 1) C 0 dX7_number_0 rfl rfl ?_
  refine r_iload_n (q := 2) C 1 dX7_number_1 rfl rfl ?_
  refine r_callV (q := 5) (t := 100) (As := [.int (nI k9)]) (st := []) C koX7 t0 (c_findT_y t0 t4 (by omega) hk9 o0) q408 q405 q407 qp10 q1 rfl ⟨by decide, by decide⟩ (show (parseMethodDescriptor yX7_find.desc).map (fun d => d.parameters.length) = some 1 by decide +kernel) (by decide) (by decide) (by decide) (by decide) (Nat.le_of_ble_eq_true rfl) rfl dX7_number_2 rfl ?_
  rintro v9 w1 ⟨rfl, rfl⟩
  show V g k 3 w 0 0 (kQ g k (fun v w' => v = some (.int (nI (fn (9 * k9)))) ∧ TcAt g w' a0 tk gN rN tN fn wn gp by9 rD tD tV tT ∧ Fl w w') 0 0) 5 [(0, .ref a0), (1, .int (nI k9))] [.ref (elk k9)]
  refine r_astore_n (q := 6) (lv' := [(2, .ref (elk k9)), (0, .ref a0), (1, .int (nI k9))]) C dX7_number_5 (by decide) rfl rfl ?_
  refine r_aload_n (q := 7) C 0 dX7_number_6 rfl rfl ?_
  refine r_ifnonnull (tgt := 14) C dX7_number_7 (by decide) ?_
  refine r_aload_n (q := 15) C 0 dX7_number_14 rfl rfl ?_
  refine r_iconst (q := 16) C (nI 0) dX7_number_15 (by decide) rfl ?_
  refine r_callV (q := 19) (t := (1000 + 3 * k9)) (As := [.int (nI 0)]) (st := []) C koX6 o0 (c_fld_y o0 o1 (i := 0) (by decide)) q312 q309 q310 q311 q17 rfl ⟨by decide, by decide⟩ (show (parseMethodDescriptor yX6_field.desc).map (fun d => d.parameters.length) = some 1 by decide +kernel) (by decide) (by decide) (by decide) (by decide) (Nat.le_of_ble_eq_true rfl) rfl dX7_number_16 rfl ?_
  rintro v9 w2 ⟨rfl, rfl⟩
  show V g k 3 w 0 0 (kQ g k (fun v w' => v = some (.int (nI (fn (9 * k9)))) ∧ TcAt g w' a0 tk gN rN tN fn wn gp by9 rD tD tV tT ∧ Fl w w') 0 0) 19 [(2, .ref (elk k9)), (0, .ref a0), (1, .int (nI k9))] [.long (ff 0)]
  refine r_tl (show (ff 0 : Int64) = lN (fn (9 * k9)) from o3 0 (by decide)) ?_
  refine r_l2i (q := 20) C dX7_number_19 rfl ?_
  refine r_ti (show ((lN (fn (9 * k9))).toInt32 : Int32) = nI (fn (9 * k9)) from lN_i (fn (9 * k9))) ?_
  exact r_iret C rfl (by decide) (by decide) dX7_number_20 ⟨rfl, hT, Fl.rfl'⟩

set_option maxHeartbeats 4000000 in
set_option maxRecDepth 20000 in
theorem x_gap_n {l : Launch} {g : cx_G} {w : wd_T} {c a0 tk gN rN tN : Nat} {fn wn : Nat → Nat} {gp by9 rD tD tV tT : Nat → Int32} (hT : TcAt g w a0 tk gN rN tN fn wn gp by9 rD tD tV tT) (hI : Iv9 c tk gN rN tN fn wn by9 tD tV tT) {x : Int32} (hx : x < 0 ∨ nI gN ≤ x) : Mt l g yX7_gap cX7_gap 2 (some .int) 0 0 0 w [.ref a0, .int x] (fun v w' => v = some (.int (-1)) ∧ TcAt g w' a0 tk gN rN tN fn wn gp by9 rD tD tV tT ∧ Fl w w') := by
  refine mt_of RX7 "gap" rfl rfl (by decide) (Nat.le_of_ble_eq_true rfl) [(0, .ref a0), (1, .int x)] rfl ?_
  intro k hkl C hin
  subst hkl
  have hTk := hT
  obtain ⟨a1, alb, alk, asp, a3, alr, asu, alv, af, asg, elb, elk, er, ab, gp9, T, t0, t1, t2, t3, t4, t5, t6, t7, t8⟩ := hTk
  obtain ⟨i0, i1, i2, i3, i4, i5, i6, i7, i8, i9, i10⟩ := id hI
  refine r_iload_n (q := 1) C 1 dX7_gap_0 rfl rfl ?_
  refine r_if_lt (q := 4) (tgt := 30) C dX7_gap_1 (by decide) rfl (fun hc1 => ?_) (fun hc1 => ?_)
  · refine r_iconst (q := 31) C ((-1)) dX7_gap_30 (by decide) rfl ?_
    exact r_iret C rfl (by decide) (by decide) dX7_gap_31 ⟨rfl, hT, Fl.rfl'⟩
  · refine r_iload_n (q := 5) C 1 dX7_gap_4 rfl rfl ?_
    refine r_aload_n (q := 6) C 0 dX7_gap_5 rfl rfl ?_
    refine r_get (q := 9) (t := 100) C koX7 t0 3 (by decide) q128 rfl rfl dX7_gap_6 rfl ?_
    refine r_icmp_ge_t (tgt := 30) C dX7_gap_9 (by decide) (by rcases hx with z | z; exact absurd z hc1; exact z) ?_
    refine r_iconst (q := 31) C ((-1)) dX7_gap_30 (by decide) rfl ?_
    exact r_iret C rfl (by decide) (by decide) dX7_gap_31 ⟨rfl, hT, Fl.rfl'⟩

set_option maxHeartbeats 4000000 in
set_option maxRecDepth 20000 in
theorem x_gap_y {l : Launch} {g : cx_G} {w : wd_T} {c a0 tk gN rN tN : Nat} {fn wn : Nat → Nat} {gp by9 rD tD tV tT : Nat → Int32} (hT : TcAt g w a0 tk gN rN tN fn wn gp by9 rD tD tV tT) (hI : Iv9 c tk gN rN tN fn wn by9 tD tV tT) {k9 : Nat} (hk9 : k9 < gN) : Mt l g yX7_gap cX7_gap 2 (some .int) 0 0 0 w [.ref a0, .int (nI k9)] (fun v w' => v = some (.int (gp k9)) ∧ TcAt g w' a0 tk gN rN tN fn wn gp by9 rD tD tV tT ∧ Fl w w') := by
  refine mt_of RX7 "gap" rfl rfl (by decide) (Nat.le_of_ble_eq_true rfl) [(0, .ref a0), (1, .int (nI k9))] rfl ?_
  intro k hkl C hin
  subst hkl
  have hTk := hT
  obtain ⟨a1, alb, alk, asp, a3, alr, asu, alv, af, asg, elb, elk, er, ab, gp9, T, t0, t1, t2, t3, t4, t5, t6, t7, t8⟩ := hTk
  obtain ⟨i0, i1, i2, i3, i4, i5, i6, i7, i8, i9, i10⟩ := id hI
  refine r_iload_n (q := 1) C 1 dX7_gap_0 rfl rfl ?_
  refine r_if_lt_f (q := 4) (tgt := 30) C dX7_gap_1 (by decide) rfl (nI_pos (by omega)) ?_
  refine r_iload_n (q := 5) C 1 dX7_gap_4 rfl rfl ?_
  refine r_aload_n (q := 6) C 0 dX7_gap_5 rfl rfl ?_
  refine r_get (q := 9) (t := 100) C koX7 t0 3 (by decide) q128 rfl rfl dX7_gap_6 rfl ?_
  refine r_icmp_ge_f (q := 12) (tgt := 30) C dX7_gap_9 (by decide) rfl (fun z => absurd ((nI_leI (a := gN) (b := k9) (by omega) (by omega)).mp z) (by omega)) ?_
  refine r_iload_n (q := 13) C 1 dX7_gap_12 rfl rfl ?_
  refine r_aload_n (q := 14) C 0 dX7_gap_13 rfl rfl ?_
  refine r_get (q := 17) (t := 100) C koX7 t0 2 (by decide) q127 rfl rfl dX7_gap_14 rfl ?_
  refine r_ilen (q := 18) (t := 102) C t1 dX7_gap_17 rfl ?_
  refine r_icmp_ge_f (q := 21) (tgt := 30) C dX7_gap_18 (by decide) rfl (fun z => absurd ((nI_leI (a := 400) (b := k9) (by omega) (by omega)).mp z) (by omega)) ?_
  refine r_aload_n (q := 22) C 0 dX7_gap_21 rfl rfl ?_
  refine r_get (q := 25) (t := 100) C koX7 t0 2 (by decide) q127 rfl rfl dX7_gap_22 rfl ?_
  refine r_iload_n (q := 26) C 1 dX7_gap_25 rfl rfl ?_
  refine r_iald (q := 27) (t := 102) C t1 k9 rfl (by omega) (by decide) dX7_gap_26 rfl ?_
  refine r_goto (tgt := 31) C dX7_gap_27 (by decide) ?_
  exact r_iret C rfl (by decide) (by decide) dX7_gap_31 ⟨by rw [t2 k9 hk9], hT, Fl.rfl'⟩

set_option maxHeartbeats 4000000 in
set_option maxRecDepth 20000 in
theorem x_rows {l : Launch} {g : cx_G} {w : wd_T} {c a0 tk gN rN tN : Nat} {fn wn : Nat → Nat} {gp by9 rD tD tV tT : Nat → Int32} (hT : TcAt g w a0 tk gN rN tN fn wn gp by9 rD tD tV tT) (hI : Iv9 c tk gN rN tN fn wn by9 tD tV tT) : Mt l g yX7_rows cX7_rows 1 (some .int) 2 0 0 w [.ref a0] (fun v w' => v = some (.int (nI rN)) ∧ TcAt g w' a0 tk gN rN tN fn wn gp by9 rD tD tV tT ∧ Fl w w') := by
  refine mt_of RX7 "rows" rfl rfl (by decide) (Nat.le_of_ble_eq_true rfl) [(0, .ref a0)] rfl ?_
  intro k hkl C hin
  subst hkl
  have hTk := hT
  obtain ⟨a1, alb, alk, asp, a3, alr, asu, alv, af, asg, elb, elk, er, ab, gp9, T, t0, t1, t2, t3, t4, t5, t6, t7, t8⟩ := hTk
  obtain ⟨i0, i1, i2, i3, i4, i5, i6, i7, i8, i9, i10⟩ := id hI
  refine r_aload_n (q := 1) C 0 dX7_rows_0 rfl rfl ?_
  refine r_get (q := 4) (t := 100) C koX7 t0 5 (by decide) q130 rfl rfl dX7_rows_1 rfl ?_
  refine r_callV (q := 7) (t := 103) (As := []) (st := []) C koX0 t6.1 (c_count t6 (by omega)) q453 q450 q451 q452 q6 rfl ⟨by decide, by decide⟩ (show (parseMethodDescriptor yX0_count.desc).map (fun d => d.parameters.length) = some 0 by decide +kernel) (by decide) (by decide) (by decide) (by decide) (Nat.le_of_ble_eq_true rfl) rfl dX7_rows_4 rfl ?_
  rintro v9 w1 ⟨rfl, rfl⟩
  show V g k 1 w 0 0 (kQ g k (fun v w' => v = some (.int (nI rN)) ∧ TcAt g w' a0 tk gN rN tN fn wn gp by9 rD tD tV tT ∧ Fl w w') 0 0) 7 [(0, .ref a0)] [.int (nI rN)]
  exact r_iret C rfl (by decide) (by decide) dX7_rows_7 ⟨rfl, hT, Fl.rfl'⟩

set_option maxHeartbeats 4000000 in
set_option maxRecDepth 20000 in
theorem x_made {l : Launch} {g : cx_G} {w : wd_T} {c a0 tk gN rN tN : Nat} {fn wn : Nat → Nat} {gp by9 rD tD tV tT : Nat → Int32} (hT : TcAt g w a0 tk gN rN tN fn wn gp by9 rD tD tV tT) (hI : Iv9 c tk gN rN tN fn wn by9 tD tV tT) : Mt l g yX7_made cX7_made 1 (some .int) 0 0 0 w [.ref a0] (fun v w' => v = some (.int (nI (tk + gN))) ∧ TcAt g w' a0 tk gN rN tN fn wn gp by9 rD tD tV tT ∧ Fl w w') := by
  refine mt_of RX7 "made" rfl rfl (by decide) (Nat.le_of_ble_eq_true rfl) [(0, .ref a0)] rfl ?_
  intro k hkl C hin
  subst hkl
  have hTk := hT
  obtain ⟨a1, alb, alk, asp, a3, alr, asu, alv, af, asg, elb, elk, er, ab, gp9, T, t0, t1, t2, t3, t4, t5, t6, t7, t8⟩ := hTk
  obtain ⟨i0, i1, i2, i3, i4, i5, i6, i7, i8, i9, i10⟩ := id hI
  refine r_aload_n (q := 1) C 0 dX7_made_0 rfl rfl ?_
  refine r_get (q := 4) (t := 100) C koX7 t0 4 (by decide) q129 rfl rfl dX7_made_1 rfl ?_
  exact r_iret C rfl (by decide) (by decide) dX7_made_4 ⟨rfl, hT, Fl.rfl'⟩

set_option maxHeartbeats 4000000 in
set_option maxRecDepth 20000 in
theorem x_spl_n {l : Launch} {g : cx_G} {w : wd_T} {c a0 tk gN rN tN : Nat} {fn wn : Nat → Nat} {gp by9 rD tD tV tT : Nat → Int32} (hT : TcAt g w a0 tk gN rN tN fn wn gp by9 rD tD tV tT) (hI : Iv9 c tk gN rN tN fn wn by9 tD tV tT) {x : Int32} (hx : x < 0 ∨ nI tk ≤ x) {y : Int32} {z : Int64} : Mt l g yX7_split cX7_split 6 (some .boolean) 4 0 0 w [.ref a0, .int x, .int y, .long z] (fun v w' => v = some (.int (nI 0)) ∧ TcAt g w' a0 tk gN rN tN fn wn gp by9 rD tD tV tT ∧ Fl w w') := by
  refine mt_of RX7 "split" rfl rfl (by decide) (Nat.le_of_ble_eq_true rfl) [(0, .ref a0), (1, .int x), (2, .int y), (3, .long z)] rfl ?_
  intro k hkl C hin
  subst hkl
  have hTk := hT
  obtain ⟨a1, alb, alk, asp, a3, alr, asu, alv, af, asg, elb, elk, er, ab, gp9, T, t0, t1, t2, t3, t4, t5, t6, t7, t8⟩ := hTk
  obtain ⟨i0, i1, i2, i3, i4, i5, i6, i7, i8, i9, i10⟩ := id hI
  refine r_aload_n (q := 1) C 0 dX7_split_0 rfl rfl ?_
  refine r_iload_n (q := 2) C 1 dX7_split_1 rfl rfl ?_
  refine r_callV (q := 5) (t := 100) (As := [.int x]) (st := []) C koX7 t0 (c_findT_n t0 t4 (by omega) hx) q408 q405 q407 qp10 q1 rfl ⟨by decide, by decide⟩ (show (parseMethodDescriptor yX7_find.desc).map (fun d => d.parameters.length) = some 1 by decide +kernel) (by decide) (by decide) (by decide) (by decide) (Nat.le_of_ble_eq_true rfl) rfl dX7_split_2 rfl ?_
  rintro v9 w1 ⟨rfl, rfl⟩
  show V g k 6 w 0 0 (kQ g k (fun v w' => v = some (.int (nI 0)) ∧ TcAt g w' a0 tk gN rN tN fn wn gp by9 rD tD tV tT ∧ Fl w w') 0 0) 5 [(0, .ref a0), (1, .int x), (2, .int y), (3, .long z)] [.null]
  refine r_astoreN (q := 7) (lv' := [(5, .null), (0, .ref a0), (1, .int x), (2, .int y), (3, .long z)]) C dX7_split_5 (by decide) rfl rfl ?_
  refine r_aloadN (q := 9) C 0 dX7_split_7 rfl rfl ?_
  refine r_ifnullN (tgt := 26) C dX7_split_9 (by decide) ?_
  refine r_iconst (q := 27) C (nI 0) dX7_split_26 (by decide) rfl ?_
  exact r_zret C rfl rfl (by decide) (by decide) dX7_split_27 ⟨rfl, hT, Fl.rfl'⟩

set_option maxHeartbeats 4000000 in
set_option maxRecDepth 20000 in
theorem x_spl_w {l : Launch} {g : cx_G} {w : wd_T} {c a0 tk gN rN tN : Nat} {fn wn : Nat → Nat} {gp by9 rD tD tV tT : Nat → Int32} (hT : TcAt g w a0 tk gN rN tN fn wn gp by9 rD tD tV tT) (hI : Iv9 c tk gN rN tN fn wn by9 tD tV tT) {k9 : Nat} (hk9 : k9 < tk) {y : Int32} {z : Int64} (hz : ¬ ∃ n, n ≤ 1000000 ∧ z = lN n) : Mt l g yX7_split cX7_split 6 (some .boolean) 4 0 0 w [.ref a0, .int (nI k9), .int y, .long z] (fun v w' => v = some (.int (nI 0)) ∧ TcAt g w' a0 tk gN rN tN fn wn gp by9 rD tD tV tT ∧ Fl w w') := by
  refine mt_of RX7 "split" rfl rfl (by decide) (Nat.le_of_ble_eq_true rfl) [(0, .ref a0), (1, .int (nI k9)), (2, .int y), (3, .long z)] rfl ?_
  intro k hkl C hin
  subst hkl
  have hTk := hT
  obtain ⟨a1, alb, alk, asp, a3, alr, asu, alv, af, asg, elb, elk, er, ab, gp9, T, t0, t1, t2, t3, t4, t5, t6, t7, t8⟩ := hTk
  obtain ⟨i0, i1, i2, i3, i4, i5, i6, i7, i8, i9, i10⟩ := id hI
  obtain ⟨atf, atw, ff, fw, o0, o1, o2, o3, o4⟩ := t5 k9 hk9
  refine r_aload_n (q := 1) C 0 dX7_split_0 rfl rfl ?_
  refine r_iload_n (q := 2) C 1 dX7_split_1 rfl rfl ?_
  refine r_callV (q := 5) (t := 100) (As := [.int (nI k9)]) (st := []) C koX7 t0 (c_findT_y t0 t4 (by omega) hk9 o0) q408 q405 q407 qp10 q1 rfl ⟨by decide, by decide⟩ (show (parseMethodDescriptor yX7_find.desc).map (fun d => d.parameters.length) = some 1 by decide +kernel) (by decide) (by decide) (by decide) (by decide) (Nat.le_of_ble_eq_true rfl) rfl dX7_split_2 rfl ?_
  rintro v9 w1 ⟨rfl, rfl⟩
  show V g k 6 w 0 0 (kQ g k (fun v w' => v = some (.int (nI 0)) ∧ TcAt g w' a0 tk gN rN tN fn wn gp by9 rD tD tV tT ∧ Fl w w') 0 0) 5 [(0, .ref a0), (1, .int (nI k9)), (2, .int y), (3, .long z)] [.ref (elk k9)]
  refine r_astore (q := 7) (lv' := [(5, .ref (elk k9)), (0, .ref a0), (1, .int (nI k9)), (2, .int y), (3, .long z)]) C dX7_split_5 (by decide) rfl rfl ?_
  refine r_aload (q := 9) C 0 dX7_split_7 rfl rfl ?_
  refine r_ifnull (q := 12) C dX7_split_9 rfl ?_
  refine r_lload_n (q := 13) C 4 dX7_split_12 rfl rfl ?_
  refine r_lconst (q := 14) C (lN 0) dX7_split_13 (by decide) rfl ?_
  refine r_lcmp_lt (q := 15) (q2 := 18) (tgt := 26) C dX7_split_14 rfl dX7_split_15 (by decide) rfl (fun hc2 => ?_) (fun hc2 => ?_)
  · refine r_iconst (q := 27) C (nI 0) dX7_split_26 (by decide) rfl ?_
    exact r_zret C rfl rfl (by decide) (by decide) dX7_split_27 ⟨rfl, hT, Fl.rfl'⟩
  · refine r_lload_n (q := 19) C 4 dX7_split_18 rfl rfl ?_
    refine r_ldc2 (q := 22) (v := lN 1000000) C dX7_split_19 q462 rfl ?_
    refine r_lcmp_le (q := 23) (q2 := 26) (tgt := 28) C dX7_split_22 rfl dX7_split_23 (by decide) rfl (fun hc5 => ?_) (fun hc5 => ?_)
    · obtain ⟨n, hn, rfl⟩ := pk_lOf hc2
      exact absurd ⟨n, (pk_lLE (a := n) (b := 1000000) (by omega) (by omega)).mp hc5, rfl⟩ hz
    · refine r_iconst (q := 27) C (nI 0) dX7_split_26 (by decide) rfl ?_
      exact r_zret C rfl rfl (by decide) (by decide) dX7_split_27 ⟨rfl, hT, Fl.rfl'⟩

set_option maxHeartbeats 4000000 in
set_option maxRecDepth 20000 in
theorem x_spl_c {l : Launch} {g : cx_G} {w : wd_T} {c a0 tk gN rN tN : Nat} {fn wn : Nat → Nat} {gp by9 rD tD tV tT : Nat → Int32} (hT : TcAt g w a0 tk gN rN tN fn wn gp by9 rD tD tV tT) (hI : Iv9 c tk gN rN tN fn wn by9 tD tV tT) {k9 : Nat} (hk9 : k9 < tk) {y : Int32} {n : Nat} (hn : n ≤ 1000000) (hy : y < 0 ∨ nI 8 ≤ y) : Mt l g yX7_split cX7_split 6 (some .boolean) 4 0 0 w [.ref a0, .int (nI k9), .int y, .long (lN n)] (fun v w' => v = some (.int (nI 0)) ∧ TcAt g w' a0 tk gN rN tN fn wn gp by9 rD tD tV tT ∧ Fl w w') := by
  refine mt_of RX7 "split" rfl rfl (by decide) (Nat.le_of_ble_eq_true rfl) [(0, .ref a0), (1, .int (nI k9)), (2, .int y), (3, .long (lN n))] rfl ?_
  intro k hkl C hin
  subst hkl
  have hTk := hT
  obtain ⟨a1, alb, alk, asp, a3, alr, asu, alv, af, asg, elb, elk, er, ab, gp9, T, t0, t1, t2, t3, t4, t5, t6, t7, t8⟩ := hTk
  obtain ⟨i0, i1, i2, i3, i4, i5, i6, i7, i8, i9, i10⟩ := id hI
  obtain ⟨atf, atw, ff, fw, o0, o1, o2, o3, o4⟩ := t5 k9 hk9
  refine r_aload_n (q := 1) C 0 dX7_split_0 rfl rfl ?_
  refine r_iload_n (q := 2) C 1 dX7_split_1 rfl rfl ?_
  refine r_callV (q := 5) (t := 100) (As := [.int (nI k9)]) (st := []) C koX7 t0 (c_findT_y t0 t4 (by omega) hk9 o0) q408 q405 q407 qp10 q1 rfl ⟨by decide, by decide⟩ (show (parseMethodDescriptor yX7_find.desc).map (fun d => d.parameters.length) = some 1 by decide +kernel) (by decide) (by decide) (by decide) (by decide) (Nat.le_of_ble_eq_true rfl) rfl dX7_split_2 rfl ?_
  rintro v9 w1 ⟨rfl, rfl⟩
  show V g k 6 w 0 0 (kQ g k (fun v w' => v = some (.int (nI 0)) ∧ TcAt g w' a0 tk gN rN tN fn wn gp by9 rD tD tV tT ∧ Fl w w') 0 0) 5 [(0, .ref a0), (1, .int (nI k9)), (2, .int y), (3, .long (lN n))] [.ref (elk k9)]
  refine r_astore (q := 7) (lv' := [(5, .ref (elk k9)), (0, .ref a0), (1, .int (nI k9)), (2, .int y), (3, .long (lN n))]) C dX7_split_5 (by decide) rfl rfl ?_
  refine r_aload (q := 9) C 0 dX7_split_7 rfl rfl ?_
  refine r_ifnull (q := 12) C dX7_split_9 rfl ?_
  refine r_lload_n (q := 13) C 4 dX7_split_12 rfl rfl ?_
  refine r_lconst (q := 14) C (lN 0) dX7_split_13 (by decide) rfl ?_
  refine r_lcmp_lt (q := 15) (q2 := 18) (tgt := 26) C dX7_split_14 rfl dX7_split_15 (by decide) rfl (fun hz2 => absurd (fun z => absurd ((pk_lLT (a := n) (b := 0) (by omega) (by omega)).mp z) (by omega)) (by first | exact hz2 | exact fun zz => zz hz2)) (fun _ => ?_)
  refine r_lload_n (q := 19) C 4 dX7_split_18 rfl rfl ?_
  refine r_ldc2 (q := 22) (v := lN 1000000) C dX7_split_19 q462 rfl ?_
  refine r_lcmp_le (q := 23) (q2 := 26) (tgt := 28) C dX7_split_22 rfl dX7_split_23 (by decide) rfl (fun _ => ?_) (fun hz3 => absurd ((pk_lLE (a := n) (b := 1000000) (by omega) (by omega)).mpr (by omega)) (by first | exact hz3 | exact fun zz => zz hz3))
  refine r_aload (q := 30) C 0 dX7_split_28 rfl rfl ?_
  refine r_iload_n (q := 31) C 3 dX7_split_30 rfl rfl ?_
  refine r_lload_n (q := 32) C 4 dX7_split_31 rfl rfl ?_
  refine r_callV (q := 35) (t := (1000 + 3 * k9)) (As := [.int y, .long (lN n)]) (st := []) C koX6 o0 (c_wgh_n o0 o2 hy) q466 q463 q464 q465 q17 rfl ⟨by decide, by decide⟩ (show (parseMethodDescriptor yX6_weigh.desc).map (fun d => d.parameters.length) = some 2 by decide +kernel) (by decide) (by decide) (by decide) (by decide) (Nat.le_of_ble_eq_true rfl) rfl dX7_split_32 rfl ?_
  rintro v9 w4 ⟨rfl, rfl⟩
  show V g k 6 w 0 0 (kQ g k (fun v w' => v = some (.int (nI 0)) ∧ TcAt g w' a0 tk gN rN tN fn wn gp by9 rD tD tV tT ∧ Fl w w') 0 0) 35 [(5, .ref (elk k9)), (0, .ref a0), (1, .int (nI k9)), (2, .int y), (3, .long (lN n))] [.int (nI 0)]
  exact r_zret C rfl rfl (by decide) (by decide) dX7_split_35 ⟨rfl, hT, Fl.rfl'⟩

set_option maxHeartbeats 4000000 in
set_option maxRecDepth 20000 in
theorem x_spl_y {l : Launch} {g : cx_G} {w : wd_T} {c a0 tk gN rN tN : Nat} {fn wn : Nat → Nat} {gp by9 rD tD tV tT : Nat → Int32} (hT : TcAt g w a0 tk gN rN tN fn wn gp by9 rD tD tV tT) (hI : Iv9 c tk gN rN tN fn wn by9 tD tV tT) {k9 : Nat} (hk9 : k9 < tk) {i n : Nat} (hi : i < 8) (hn : n ≤ 1000000) : Mt l g yX7_split cX7_split 6 (some .boolean) 4 0 0 w [.ref a0, .int (nI k9), .int (nI i), .long (lN n)] (fun v w' => v = some (.int (nI 1)) ∧ TcAt g w' a0 tk gN rN tN fn (upN wn (8 * k9 + i) n) gp by9 rD tD tV tT ∧ Fl w w') := by
  refine mt_of RX7 "split" rfl rfl (by decide) (Nat.le_of_ble_eq_true rfl) [(0, .ref a0), (1, .int (nI k9)), (2, .int (nI i)), (3, .long (lN n))] rfl ?_
  intro k hkl C hin
  subst hkl
  have hTk := hT
  obtain ⟨a1, alb, alk, asp, a3, alr, asu, alv, af, asg, elb, elk, er, ab, gp9, T, t0, t1, t2, t3, t4, t5, t6, t7, t8⟩ := hTk
  obtain ⟨i0, i1, i2, i3, i4, i5, i6, i7, i8, i9, i10⟩ := id hI
  obtain ⟨atf, atw, ff, fw, o0, o1, o2, o3, o4⟩ := t5 k9 hk9
  refine r_aload_n (q := 1) C 0 dX7_split_0 rfl rfl ?_
  refine r_iload_n (q := 2) C 1 dX7_split_1 rfl rfl ?_
  refine r_callV (q := 5) (t := 100) (As := [.int (nI k9)]) (st := []) C koX7 t0 (c_findT_y t0 t4 (by omega) hk9 o0) q408 q405 q407 qp10 q1 rfl ⟨by decide, by decide⟩ (show (parseMethodDescriptor yX7_find.desc).map (fun d => d.parameters.length) = some 1 by decide +kernel) (by decide) (by decide) (by decide) (by decide) (Nat.le_of_ble_eq_true rfl) rfl dX7_split_2 rfl ?_
  rintro v9 w1 ⟨rfl, rfl⟩
  show V g k 6 w 0 0 (kQ g k (fun v w' => v = some (.int (nI 1)) ∧ TcAt g w' a0 tk gN rN tN fn (upN wn (8 * k9 + i) n) gp by9 rD tD tV tT ∧ Fl w w') 0 0) 5 [(0, .ref a0), (1, .int (nI k9)), (2, .int (nI i)), (3, .long (lN n))] [.ref (elk k9)]
  refine r_astore (q := 7) (lv' := [(5, .ref (elk k9)), (0, .ref a0), (1, .int (nI k9)), (2, .int (nI i)), (3, .long (lN n))]) C dX7_split_5 (by decide) rfl rfl ?_
  refine r_aload (q := 9) C 0 dX7_split_7 rfl rfl ?_
  refine r_ifnull (q := 12) C dX7_split_9 rfl ?_
  refine r_lload_n (q := 13) C 4 dX7_split_12 rfl rfl ?_
  refine r_lconst (q := 14) C (lN 0) dX7_split_13 (by decide) rfl ?_
  refine r_lcmp_lt (q := 15) (q2 := 18) (tgt := 26) C dX7_split_14 rfl dX7_split_15 (by decide) rfl (fun hz2 => absurd (fun z => absurd ((pk_lLT (a := n) (b := 0) (by omega) (by omega)).mp z) (by omega)) (by first | exact hz2 | exact fun zz => zz hz2)) (fun _ => ?_)
  refine r_lload_n (q := 19) C 4 dX7_split_18 rfl rfl ?_
  refine r_ldc2 (q := 22) (v := lN 1000000) C dX7_split_19 q462 rfl ?_
  refine r_lcmp_le (q := 23) (q2 := 26) (tgt := 28) C dX7_split_22 rfl dX7_split_23 (by decide) rfl (fun _ => ?_) (fun hz3 => absurd ((pk_lLE (a := n) (b := 1000000) (by omega) (by omega)).mpr (by omega)) (by first | exact hz3 | exact fun zz => zz hz3))
  refine r_aload (q := 30) C 0 dX7_split_28 rfl rfl ?_
  refine r_iload_n (q := 31) C 3 dX7_split_30 rfl rfl ?_
  refine r_lload_n (q := 32) C 4 dX7_split_31 rfl rfl ?_
  refine r_callV (q := 35) (t := (1000 + 3 * k9)) (As := [.int (nI i), .long (lN n)]) (st := []) C koX6 o0 (c_wgh_y o0 o2 hi) q466 q463 q464 q465 q17 rfl ⟨by decide, by decide⟩ (show (parseMethodDescriptor yX6_weigh.desc).map (fun d => d.parameters.length) = some 2 by decide +kernel) (by decide) (by decide) (by decide) (by decide) (Nat.le_of_ble_eq_true rfl) rfl dX7_split_32 rfl ?_
  rintro v9 w5 ⟨rfl, e0, ef⟩
  show V g k 6 w5 0 0 (kQ g k (fun v w' => v = some (.int (nI 1)) ∧ TcAt g w' a0 tk gN rN tN fn (upN wn (8 * k9 + i) n) gp by9 rD tD tV tT ∧ Fl w w') 0 0) 35 [(5, .ref (elk k9)), (0, .ref a0), (1, .int (nI k9)), (2, .int (nI i)), (3, .long (lN n))] [.int (nI 1)]
  have k5 : ∀ t, t ≠ 1000 + 3 * k9 + 2 → w5 t = w t := fun t ht => ef t (by omega)
  refine r_zret C rfl rfl (by decide) (by decide) dX7_split_35 ⟨rfl, ⟨a1, alb, alk, asp, a3, alr, asu, alv, af, asg, elb, elk, er, ab, gp9, T, (k5 _ (by omega)).trans t0, (k5 _ (by omega)).trans t1, t2, t3.kept (by show tN ≤ 200; omega) (fun t ht => k5 t (by omega)), t4.kept (k5 _ (by omega)) (k5 _ (by omega)) (fun j hj q => q.kept (k5 _ (by show 1000 + 3 * j ≠ _; omega))), ?_, t6.keptC (by show rN ≤ 300; omega) (fun t ht => k5 t (by omega)), t7.kept (k5 _ (by omega)) (k5 _ (by omega)), t8⟩, fun t ht => k5 t (by omega)⟩
  intro k8 hk8
  show ∃ (atf atw : Nat) (ff fw : Nat → Int64), w5 (1000 + 3 * k8) = some (elk k8, ob 6 [.ref atf, .ref atw]) ∧ w5 (1000 + 3 * k8 + 1) = some (atf, aL g 9 ff) ∧ w5 (1000 + 3 * k8 + 2) = some (atw, aL g 8 fw) ∧ (∀ i, i < 9 → ff i = lN (fv9 fn k8 i)) ∧ ∀ j, j < 8 → fw j = lN (upN wn (8 * k9 + i) n (8 * k8 + j))
  by_cases z : k8 = k9
  · subst z
    refine ⟨atf, atw, ff, _, (k5 _ (by omega)).trans o0, (k5 _ (by omega)).trans o1, e0, o3, fun j hj => ?_⟩
    unfold upN vp_updL
    by_cases y : j = i
    · rw [if_pos y, if_pos (by omega)]
    · rw [if_neg y, if_neg (by omega), o4 j hj]
  · obtain ⟨atf2, atw2, ff2, fw2, p0, p1, p2, p3, p4⟩ := t5 k8 hk8
    refine ⟨atf2, atw2, ff2, fw2, (k5 _ (by omega)).trans p0, (k5 _ (by omega)).trans p1, (k5 _ (by omega)).trans p2, p3, fun j hj => ?_⟩
    unfold upN
    rw [if_neg (by omega), p4 j hj]

set_option maxHeartbeats 4000000 in
set_option maxRecDepth 20000 in
theorem x_shr_n {l : Launch} {g : cx_G} {w : wd_T} {c a0 tk gN rN tN : Nat} {fn wn : Nat → Nat} {gp by9 rD tD tV tT : Nat → Int32} (hT : TcAt g w a0 tk gN rN tN fn wn gp by9 rD tD tV tT) (hI : Iv9 c tk gN rN tN fn wn by9 tD tV tT) {x : Int32} (hx : x < 0 ∨ nI tk ≤ x) {y : Int32} : Mt l g yX7_share cX7_share 4 (some .long) 5 0 0 w [.ref a0, .int x, .int y] (fun v w' => v = some (.long (-1)) ∧ TcAt g w' a0 tk gN rN tN fn wn gp by9 rD tD tV tT ∧ Fl w w') := by
  refine mt_of RX7 "share" rfl rfl (by decide) (Nat.le_of_ble_eq_true rfl) [(0, .ref a0), (1, .int x), (2, .int y)] rfl ?_
  intro k hkl C hin
  subst hkl
  have hTk := hT
  obtain ⟨a1, alb, alk, asp, a3, alr, asu, alv, af, asg, elb, elk, er, ab, gp9, T, t0, t1, t2, t3, t4, t5, t6, t7, t8⟩ := hTk
  obtain ⟨i0, i1, i2, i3, i4, i5, i6, i7, i8, i9, i10⟩ := id hI
  refine r_aload_n (q := 1) C 0 dX7_share_0 rfl rfl ?_
  refine r_iload_n (q := 2) C 1 dX7_share_1 rfl rfl ?_
  refine r_callV (q := 5) (t := 100) (As := [.int x]) (st := []) C koX7 t0 (c_findT_n t0 t4 (by omega) hx) q408 q405 q407 qp10 q1 rfl ⟨by decide, by decide⟩ (show (parseMethodDescriptor yX7_find.desc).map (fun d => d.parameters.length) = some 1 by decide +kernel) (by decide) (by decide) (by decide) (by decide) (Nat.le_of_ble_eq_true rfl) rfl dX7_share_2 rfl ?_
  rintro v9 w1 ⟨rfl, rfl⟩
  show V g k 4 w 0 0 (kQ g k (fun v w' => v = some (.long (-1)) ∧ TcAt g w' a0 tk gN rN tN fn wn gp by9 rD tD tV tT ∧ Fl w w') 0 0) 5 [(0, .ref a0), (1, .int x), (2, .int y)] [.null]
  refine r_astore_nN (q := 6) (lv' := [(3, .null), (0, .ref a0), (1, .int x), (2, .int y)]) C dX7_share_5 (by decide) rfl rfl ?_
  refine r_aload_nN (q := 7) C 0 dX7_share_6 rfl rfl ?_
  refine r_ifnonnullN (q := 10) C dX7_share_7 rfl ?_
  refine r_ldc2 (q := 13) (v := (-1)) C dX7_share_10 q163 rfl ?_
  refine r_goto (tgt := 21) C dX7_share_13 (by decide) ?_
  exact r_lret C rfl (by decide) (by decide) dX7_share_21 ⟨rfl, hT, Fl.rfl'⟩

set_option maxHeartbeats 4000000 in
set_option maxRecDepth 20000 in
theorem x_shr_c {l : Launch} {g : cx_G} {w : wd_T} {c a0 tk gN rN tN : Nat} {fn wn : Nat → Nat} {gp by9 rD tD tV tT : Nat → Int32} (hT : TcAt g w a0 tk gN rN tN fn wn gp by9 rD tD tV tT) (hI : Iv9 c tk gN rN tN fn wn by9 tD tV tT) {k9 : Nat} (hk9 : k9 < tk) {y : Int32} (hy : y < 0 ∨ nI 8 ≤ y) : Mt l g yX7_share cX7_share 4 (some .long) 5 0 0 w [.ref a0, .int (nI k9), .int y] (fun v w' => v = some (.long (-1)) ∧ TcAt g w' a0 tk gN rN tN fn wn gp by9 rD tD tV tT ∧ Fl w w') := by
  refine mt_of RX7 "share" rfl rfl (by decide) (Nat.le_of_ble_eq_true rfl) [(0, .ref a0), (1, .int (nI k9)), (2, .int y)] rfl ?_
  intro k hkl C hin
  subst hkl
  have hTk := hT
  obtain ⟨a1, alb, alk, asp, a3, alr, asu, alv, af, asg, elb, elk, er, ab, gp9, T, t0, t1, t2, t3, t4, t5, t6, t7, t8⟩ := hTk
  obtain ⟨i0, i1, i2, i3, i4, i5, i6, i7, i8, i9, i10⟩ := id hI
  obtain ⟨atf, atw, ff, fw, o0, o1, o2, o3, o4⟩ := t5 k9 hk9
  refine r_aload_n (q := 1) C 0 dX7_share_0 rfl rfl ?_
  refine r_iload_n (q := 2) C 1 dX7_share_1 rfl rfl ?_
  refine r_callV (q := 5) (t := 100) (As := [.int (nI k9)]) (st := []) C koX7 t0 (c_findT_y t0 t4 (by omega) hk9 o0) q408 q405 q407 qp10 q1 rfl ⟨by decide, by decide⟩ (show (parseMethodDescriptor yX7_find.desc).map (fun d => d.parameters.length) = some 1 by decide +kernel) (by decide) (by decide) (by decide) (by decide) (Nat.le_of_ble_eq_true rfl) rfl dX7_share_2 rfl ?_
  rintro v9 w1 ⟨rfl, rfl⟩
  show V g k 4 w 0 0 (kQ g k (fun v w' => v = some (.long (-1)) ∧ TcAt g w' a0 tk gN rN tN fn wn gp by9 rD tD tV tT ∧ Fl w w') 0 0) 5 [(0, .ref a0), (1, .int (nI k9)), (2, .int y)] [.ref (elk k9)]
  refine r_astore_n (q := 6) (lv' := [(3, .ref (elk k9)), (0, .ref a0), (1, .int (nI k9)), (2, .int y)]) C dX7_share_5 (by decide) rfl rfl ?_
  refine r_aload_n (q := 7) C 0 dX7_share_6 rfl rfl ?_
  refine r_ifnonnull (tgt := 16) C dX7_share_7 (by decide) ?_
  refine r_aload_n (q := 17) C 0 dX7_share_16 rfl rfl ?_
  refine r_iload_n (q := 18) C 3 dX7_share_17 rfl rfl ?_
  refine r_callV (q := 21) (t := (1000 + 3 * k9)) (As := [.int y]) (st := []) C koX6 o0 (c_shr_n o0 o1 o2 hy) q474 q471 q472 q473 q17 rfl ⟨by decide, by decide⟩ (show (parseMethodDescriptor yX6_shareOf.desc).map (fun d => d.parameters.length) = some 1 by decide +kernel) (by decide) (by decide) (by decide) (by decide) (Nat.le_of_ble_eq_true rfl) rfl dX7_share_18 rfl ?_
  rintro v9 w2 ⟨rfl, rfl⟩
  show V g k 4 w 0 0 (kQ g k (fun v w' => v = some (.long (-1)) ∧ TcAt g w' a0 tk gN rN tN fn wn gp by9 rD tD tV tT ∧ Fl w w') 0 0) 21 [(3, .ref (elk k9)), (0, .ref a0), (1, .int (nI k9)), (2, .int y)] [.long (-1)]
  exact r_lret C rfl (by decide) (by decide) dX7_share_21 ⟨rfl, hT, Fl.rfl'⟩
