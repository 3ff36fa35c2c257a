/-! the law's own byteAt; class and reference side by side -/
set_option maxHeartbeats 4000000 in
set_option maxRecDepth 20000 in
theorem z_byt_y {l : Launch} {g : cx_G} {w : wd_T} {c a0 tk gN rN tN : Nat} {fn wn : Nat → Nat} {gp by9 rD tD tV tT : Nat → Int32} (hT : TcAt g w a0 tk gN rN tN fn wn gp by9 rD tD tV tT) (hI : Iv9 c tk gN rN tN fn wn by9 tD tV tT) {ao : Nat} {fo : Nat → Int64} (h50 : w 50 = some (ao, aL g 1 fo)) {k9 : Nat} (hk9 : k9 < rN) {i : Nat} (hi : i < 73) : MtH l g yL_byteAt cL_byteAt 5 (some .int) [(0, 10, 13, 13)] 9 1 6 w [.ref a0, .int (nI k9), .int (nI i), .ref ao] (fun v w' => v = some (.int (nI 0)) ∧ (∃ fo', w' 50 = some (ao, aL g 1 fo') ∧ fo' 0 = (by9 (73 * k9 + i) &&& nI 255).toInt64) ∧ TcAt g w' a0 tk gN rN tN fn wn gp by9 rD tD tV tT ∧ ∀ t, t < 100 → t ≠ 50 → w' t = w t) := by
  refine mth_of RL rfl (by decide) (Nat.le_of_ble_eq_true rfl) [(0, .ref a0), (1, .int (nI k9)), (2, .int (nI i)), (3, .ref ao)] rfl ?_
  intro k hkl C hkx htab
  subst hkl
  have hTk := hT
  obtain ⟨a1, alb, alk, asp, a3, alr, asu, alv, af, asg, elb, elk, er, ab, gp9, T, t0, t1, t2, t3, t4, t5, t6, t7, t8⟩ := hTk
  obtain ⟨i0, i1, i2, i3, i4, i5, i6, i7, i8, i9, i10⟩ := id hI
  refine r_aload_n (q := 1) C 3 dL_byteAt_0 rfl rfl ?_
  refine r_iconst (q := 2) C (nI 0) dL_byteAt_1 (by decide) rfl ?_
  refine r_aload_n (q := 3) C 0 dL_byteAt_2 rfl rfl ?_
  refine r_iload_n (q := 4) C 1 dL_byteAt_3 rfl rfl ?_
  refine r_iload_n (q := 5) C 2 dL_byteAt_4 rfl rfl ?_
  refine r_callV (q := 8) (t := 100) (As := [.int (nI k9), .int (nI i)]) (st := [.int (nI 0), .ref ao]) C koX7 t0 (x_byt_y hT hI hk9 hi) q680 q677 q678 q679 q1 rfl ⟨by decide, by decide⟩ (show (parseMethodDescriptor yX7_byteAt.desc).map (fun d => d.parameters.length) = some 2 by decide +kernel) (by decide) (by decide) (by decide) (by decide) (Nat.le_of_ble_eq_true rfl) rfl dL_byteAt_5 rfl ?_
  rintro v9 w2 ⟨rfl, hT2, hf2⟩
  show V g k 5 w2 0 0 (kQ g k (fun v w' => v = some (.int (nI 0)) ∧ (∃ fo', w' 50 = some (ao, aL g 1 fo') ∧ fo' 0 = (by9 (73 * k9 + i) &&& nI 255).toInt64) ∧ TcAt g w' a0 tk gN rN tN fn wn gp by9 rD tD tV tT ∧ ∀ t, t < 100 → t ≠ 50 → w' t = w t) 1 6) 8 [(0, .ref a0), (1, .int (nI k9)), (2, .int (nI i)), (3, .ref ao)] [.int (by9 (73 * k9 + i) &&& nI 255), .int (nI 0), .ref ao]
  refine r_i2l (q := 9) C dL_byteAt_8 rfl ?_
  refine r_last (q := 10) (t := 50) (w' := wd_set w2 50 ao (aL g 1 (vp_updL fo 0 ((by9 (73 * k9 + i) &&& nI 255).toInt64)))) C ((hf2 50 (by decide)).trans h50) 0 rfl (by decide) (by decide) dL_byteAt_9 rfl rfl ?_
  refine r_goto (tgt := 17) C dL_byteAt_10 (by decide) ?_
  refine r_iconst (q := 18) C (nI 0) dL_byteAt_17 (by decide) rfl ?_
  exact r_iret C rfl (by decide) (by decide) dL_byteAt_18 ⟨rfl, ⟨_, wd_eq, if_pos rfl⟩, hT2.kept hI (fun t ht => wd_ne (by omega)), fun t h1 h2 => (wd_ne h2).trans (hf2 t h1)⟩

set_option maxHeartbeats 4000000 in
set_option maxRecDepth 20000 in
theorem z_byt_n {l : Launch} {g : cx_G} {w : wd_T} {c a0 tk gN rN tN : Nat} {fn wn : Nat → Nat} {gp by9 rD tD tV tT : Nat → Int32} (hT : TcAt g w a0 tk gN rN tN fn wn gp by9 rD tD tV tT) (hI : Iv9 c tk gN rN tN fn wn by9 tD tV tT) (hlt : l.stackTraces = false) {x : Int32} (hx : x < 0 ∨ nI rN ≤ x) {y : Int32} {ao : Nat} : MtH l g yL_byteAt cL_byteAt 5 (some .int) [(0, 10, 13, 13)] 9 1 6 w [.ref a0, .int x, .int y, .ref ao] (fun v w' => v = some (.int (nI 1)) ∧ w = w') := by
  refine mth_of RL rfl (by decide) (Nat.le_of_ble_eq_true rfl) [(0, .ref a0), (1, .int x), (2, .int y), (3, .ref ao)] rfl ?_
  intro k hkl C hkx htab
  subst hkl
  have hTk := hT
  obtain ⟨a1, alb, alk, asp, a3, alr, asu, alv, af, asg, elb, elk, er, ab, gp9, T, t0, t1, t2, t3, t4, t5, t6, t7, t8⟩ := hTk
  obtain ⟨i0, i1, i2, i3, i4, i5, i6, i7, i8, i9, i10⟩ := id hI
  refine r_aload_n (q := 1) C 3 dL_byteAt_0 rfl rfl ?_
  refine r_iconst (q := 2) C (nI 0) dL_byteAt_1 (by decide) rfl ?_
  refine r_aload_n (q := 3) C 0 dL_byteAt_2 rfl rfl ?_
  refine r_iload_n (q := 4) C 1 dL_byteAt_3 rfl rfl ?_
  refine r_iload_n (q := 5) C 2 dL_byteAt_4 rfl rfl ?_
  refine r_callX (As := [.int x, .int y]) (st := [.int (nI 0), .ref ao]) C hkx htab koX7 t0 (x_byt_n hT hI hlt hx) q680 q677 q678 q679 q1 rfl ⟨by decide, by decide⟩ (show (parseMethodDescriptor yX7_byteAt.desc).map (fun d => d.parameters.length) = some 2 by decide +kernel) (by decide) (by decide) (by decide) (by decide) (Nat.le_of_ble_eq_true rfl) rfl dL_byteAt_5 (by decide) (fun q9 => ?_)
  refine r_astore (q := 15) (lv' := [(4, .ref q9), (0, .ref a0), (1, .int x), (2, .int y), (3, .ref ao)]) C dL_byteAt_13 (by decide) rfl rfl ?_
  refine r_iconst (q := 16) C (nI 1) dL_byteAt_15 (by decide) rfl ?_
  exact r_iret C rfl (by decide) (by decide) dL_byteAt_16 ⟨rfl, rfl⟩

set_option maxHeartbeats 4000000 in
set_option maxRecDepth 20000 in
theorem z_byt_i {l : Launch} {g : cx_G} {w : wd_T} {c a0 tk gN rN tN : Nat} {fn wn : Nat → Nat} {gp by9 rD tD tV tT : Nat → Int32} (hT : TcAt g w a0 tk gN rN tN fn wn gp by9 rD tD tV tT) (hI : Iv9 c tk gN rN tN fn wn by9 tD tV tT) (hlt : l.stackTraces = false) {k9 : Nat} (hk9 : k9 < rN) {y : Int32} (hy : y < 0 ∨ nI 73 ≤ y) {ao : Nat} : MtH l g yL_byteAt cL_byteAt 5 (some .int) [(0, 10, 13, 13)] 9 1 6 w [.ref a0, .int (nI k9), .int y, .ref ao] (fun v w' => v = some (.int (nI 1)) ∧ w = w') := by
  refine mth_of RL rfl (by decide) (Nat.le_of_ble_eq_true rfl) [(0, .ref a0), (1, .int (nI k9)), (2, .int y), (3, .ref ao)] rfl ?_
  intro k hkl C hkx htab
  subst hkl
  have hTk := hT
  obtain ⟨a1, alb, alk, asp, a3, alr, asu, alv, af, asg, elb, elk, er, ab, gp9, T, t0, t1, t2, t3, t4, t5, t6, t7, t8⟩ := hTk
  obtain ⟨i0, i1, i2, i3, i4, i5, i6, i7, i8, i9, i10⟩ := id hI
  refine r_aload_n (q := 1) C 3 dL_byteAt_0 rfl rfl ?_
  refine r_iconst (q := 2) C (nI 0) dL_byteAt_1 (by decide) rfl ?_
  refine r_aload_n (q := 3) C 0 dL_byteAt_2 rfl rfl ?_
  refine r_iload_n (q := 4) C 1 dL_byteAt_3 rfl rfl ?_
  refine r_iload_n (q := 5) C 2 dL_byteAt_4 rfl rfl ?_
  refine r_callX (As := [.int (nI k9), .int y]) (st := [.int (nI 0), .ref ao]) C hkx htab koX7 t0 (x_byt_i hT hI hlt hk9 hy) q680 q677 q678 q679 q1 rfl ⟨by decide, by decide⟩ (show (parseMethodDescriptor yX7_byteAt.desc).map (fun d => d.parameters.length) = some 2 by decide +kernel) (by decide) (by decide) (by decide) (by decide) (Nat.le_of_ble_eq_true rfl) rfl dL_byteAt_5 (by decide) (fun q9 => ?_)
  refine r_astore (q := 15) (lv' := [(4, .ref q9), (0, .ref a0), (1, .int (nI k9)), (2, .int y), (3, .ref ao)]) C dL_byteAt_13 (by decide) rfl rfl ?_
  refine r_iconst (q := 16) C (nI 1) dL_byteAt_15 (by decide) rfl ?_
  exact r_iret C rfl (by decide) (by decide) dL_byteAt_16 ⟨rfl, rfl⟩
