/-! Sum: finish, copyTo, isAt, its constructor -/
theorem bp9 (x : Int32) : x.toInt8.toInt32 &&& nI 255 = x &&& nI 255 := bp_b x
theorem dig9_8 (S : Nat → Int32) (k : Nat) : (dig9 S k).toInt8.toInt32 = dig9 S k := i8_idem _
/-- the message behind the padding -/
theorem fin_msg {n : Nat} (h1 : 57 ≤ n) (h2 : n ≤ 119) {m f : Nat → Int32} (e1 : ∀ j, j < n → m j = (f j).toInt8.toInt32) (e2 : m n = (nI 128).toInt8.toInt32) (e3 : ∀ j, n < j → j < 120 → m j = (nI 0).toInt8.toInt32) {x7 x6 x5 x4 x3 x2 : Int32} (z7 : x7 = nI 0) (z6 : x6 = nI 0) (z5 : x5 = nI 0) (z4 : x4 = nI 0) (z3 : x3 = nI 0) (z2 : x2 = nI 0) :
    ∀ j, j < 128 → upd (upd (upd (upd (upd (upd (upd (upd m 120 x7.toInt8.toInt32) 121 x6.toInt8.toInt32) 122 x5.toInt8.toInt32) 123 x4.toInt8.toInt32) 124 x3.toInt8.toInt32) 125 x2.toInt8.toInt32) 126 (nI (8 * n / 2 ^ 8)).toInt8.toInt32) 127 (nI (8 * n / 2 ^ 0)).toInt8.toInt32 j = pad9 n f j := by
  intro j hj
  subst z7 z6 z5 z4 z3 z2
  unfold pad9
  rcases Nat.lt_or_ge j 120 with q | q
  · rw [pk_un (by omega), pk_un (by omega), pk_un (by omega), pk_un (by omega), pk_un (by omega), pk_un (by omega), pk_un (by omega), pk_un (by omega)]
    rcases Nat.lt_or_ge j n with q1 | q1
    · rw [if_pos q1]; exact e1 j q1
    · rw [if_neg (by omega)]
      by_cases q2 : j = n
      · rw [if_pos q2, q2]; exact e2
      · rw [if_neg q2, if_neg (by omega), if_neg (by omega)]; exact e3 j (by omega) q
  · rw [if_neg (by omega), if_neg (by omega)]
    have c : j = 120 ∨ j = 121 ∨ j = 122 ∨ j = 123 ∨ j = 124 ∨ j = 125 ∨ j = 126 ∨ j = 127 := by omega
    rcases c with rfl | rfl | rfl | rfl | rfl | rfl | rfl | rfl
    · rw [pk_un (by decide), pk_un (by decide), pk_un (by decide), pk_un (by decide), pk_un (by decide), pk_un (by decide), pk_un (by decide), pk_us, if_neg (by decide), if_neg (by decide)]
    · rw [pk_un (by decide), pk_un (by decide), pk_un (by decide), pk_un (by decide), pk_un (by decide), pk_un (by decide), pk_us, if_neg (by decide), if_neg (by decide)]
    · rw [pk_un (by decide), pk_un (by decide), pk_un (by decide), pk_un (by decide), pk_un (by decide), pk_us, if_neg (by decide), if_neg (by decide)]
    · rw [pk_un (by decide), pk_un (by decide), pk_un (by decide), pk_un (by decide), pk_us, if_neg (by decide), if_neg (by decide)]
    · rw [pk_un (by decide), pk_un (by decide), pk_un (by decide), pk_us, if_neg (by decide), if_neg (by decide)]
    · rw [pk_un (by decide), pk_un (by decide), pk_us, if_neg (by decide), if_neg (by decide)]
    · rw [pk_un (by decide), pk_us, if_pos rfl]
    · rw [pk_us, if_neg (by decide), if_pos rfl, Nat.pow_zero, Nat.div_one, n8_mod]
theorem sum9_of {n : Nat} {m f S1 S2 S3 w1 w2 : Nat → Int32} (hm : ∀ j, j < 128 → m j = pad9 n f j) (h1 : ∀ j, j < 8 → S1 j = kSq j) (hw1 : ∀ j, j < 64 → w1 j = sc9 m 0 j) (h2 : ∀ j, j < 8 → S2 j = S1 j + rds w1 64 S1 j) (hw2 : ∀ j, j < 64 → w2 j = sc9 m 64 j) (h3 : ∀ j, j < 8 → S3 j = S2 j + rds w2 64 S2 j) : ∀ j, j < 8 → S3 j = sum9 n f j := by
  have e : ∀ j, j < 8 → S2 j = cmp9 (pad9 n f) 0 kSq j := by
    intro j hj
    rw [h2 j hj, rds_congr S1 64 hw1]
    have k1 := cmp9_congr (M := m) (N := pad9 n f) (b := 0) S1 (fun j _ hj => by rw [hm j (by omega)])
    have k2 := cmp9_st (M := pad9 n f) (b := 0) h1 j hj
    rw [← k2, ← k1]
    rfl
  intro j hj
  rw [h3 j hj, rds_congr S2 64 hw2]
  have k1 := cmp9_congr (M := m) (N := pad9 n f) (b := 64) S2 (fun j _ hj => by rw [hm j (by omega)])
  have k2 := cmp9_st (M := pad9 n f) (b := 64) e j hj
  unfold sum9
  rw [← k2, ← k1]
  rfl

set_option maxHeartbeats 4000000 in
set_option maxRecDepth 20000 in
theorem c_finish {l : Launch} {g : cx_G} {w : wd_T} {a0 am aw as9 : Nat} {n : Nat} {msg wds sta f9 : Nat → Int32} (h0 : w 110 = some (a0, ob 3 [.ref am, .ref aw, .ref as9, .int (nI n)])) (h1 : w 111 = some (am, aB g 128 msg)) (h2 : w 112 = some (aw, aI g 64 wds)) (h3 : w 113 = some (as9, aI g 8 sta)) (hn : 57 ≤ n) (hn2 : n ≤ 119) (hm : ∀ j, j < n → msg j = (f9 j).toInt8.toInt32) : Mt l g yX3_finish cX3_finish 4 none 3 0 0 w [.ref a0] (fun v w' => v = none ∧ (∃ msg' wds' sta' : Nat → Int32, w' 110 = some (a0, ob 3 [.ref am, .ref aw, .ref as9, .int (nI 128)]) ∧ w' 111 = some (am, aB g 128 msg') ∧ w' 112 = some (aw, aI g 64 wds') ∧ w' 113 = some (as9, aI g 8 sta') ∧ ∀ j, j < 8 → sta' j = sum9 n f9 j) ∧ Fr w w' 110 114) := by
  refine mt_of RX3 "finish" rfl rfl (by decide) (Nat.le_of_ble_eq_true rfl) [(0, .ref a0)] rfl ?_
  intro k hkl C hin
  subst hkl
  refine r_ldc2 (v := lN 8) C dX3_finish_0 q368 rfl ?_
  refine r_aload_n C 0 dX3_finish_3 rfl rfl ?_
  refine r_get (t := 110) C koX3 h0 3 (by decide) q90 rfl rfl dX3_finish_4 rfl ?_
  refine r_i2l C dX3_finish_7 rfl ?_
  refine r_tl (show ((nI n).toInt64 : Int64) = lN n from nI_l (by omega)) ?_
  refine r_lmul C dX3_finish_8 rfl ?_
  refine r_tl (show ((lN 8) * (lN n) : Int64) = lN (8 * n) from lN_mul 8 n) ?_
  refine r_lstore_n (lv' := [(1, .long (lN (8 * n))), (0, .ref a0)]) C dX3_finish_9 (by decide) rfl rfl ?_
  refine r_aload_n C 1 dX3_finish_10 rfl rfl ?_
  refine r_sipush C (nI 128) dX3_finish_11 (by decide) rfl ?_
  refine r_callV (t := 110) (As := [.int (nI 128)]) (st := []) C koX3 h0 (c_addByte h0 h1 (by omega)) q359 q356 q358 qp6 q7 rfl ⟨by decide, by decide⟩ (show (parseMethodDescriptor yX3_addByte.desc).map (fun d => d.parameters.length) = some 1 by decide +kernel) (by decide) (by decide) (by decide) (by decide) (Nat.le_of_ble_eq_true rfl) rfl dX3_finish_14 rfl ?_
  rintro v9 w2 ⟨rfl, e0, e1, ef1⟩
  show V g k 4 w2 0 0 (kQ g k (fun v w' => v = none ∧ (∃ msg' wds' sta' : Nat → Int32, w' 110 = some (a0, ob 3 [.ref am, .ref aw, .ref as9, .int (nI 128)]) ∧ w' 111 = some (am, aB g 128 msg') ∧ w' 112 = some (aw, aI g 64 wds') ∧ w' 113 = some (as9, aI g 8 sta') ∧ ∀ j, j < 8 → sta' j = sum9 n f9 j) ∧ Fr w w' 110 114) 0 0) 17 [(1, .long (lN (8 * n))), (0, .ref a0)] []
  refine r_iconst C (nI 0) dX3_finish_17 (by decide) rfl ?_
  refine r_istore_n (lv' := [(3, .int (nI 0)), (1, .long (lN (8 * n))), (0, .ref a0)]) C dX3_finish_18 (by decide) rfl rfl ?_
  have loop : ∀ (r i : Nat) (m1 : Nat → Int32) (w1 : wd_T), i + r = 119 - n → (w1 110 = some (a0, ob 3 [.ref am, .ref aw, .ref as9, .int (nI (n + 1 + i))])) → (w1 111 = some (am, aB g 128 m1)) → (∀ j, j < n → m1 j = (f9 j).toInt8.toInt32) → (m1 n = (nI 128).toInt8.toInt32) → (∀ j, n < j → j < n + 1 + i → m1 j = (nI 0).toInt8.toInt32) → (Fr w w1 110 112) → V g k 4 w1 0 0 (kQ g k (fun v w' => v = none ∧ (∃ msg' wds' sta' : Nat → Int32, w' 110 = some (a0, ob 3 [.ref am, .ref aw, .ref as9, .int (nI 128)]) ∧ w' 111 = some (am, aB g 128 msg') ∧ w' 112 = some (aw, aI g 64 wds') ∧ w' 113 = some (as9, aI g 8 sta') ∧ ∀ j, j < 8 → sta' j = sum9 n f9 j) ∧ Fr w w' 110 114) 0 0) 19 [(3, .int (nI i)), (1, .long (lN (8 * n))), (0, .ref a0)] [] := by
    intro r
    induction r with
    | zero =>
      intro i m1 w1 hi g0 g1 q1 q2 q3 gf
      have g2 : w1 112 = _ := (gf 112 (by decide)).trans h2
      have g3 : w1 113 = _ := (gf 113 (by decide)).trans h3
      have hi9 : i = 119 - n := by omega
      refine r_iload_n C 0 dX3_finish_19 rfl rfl ?_
      refine r_bipush C (nI 64) dX3_finish_20 (by decide) rfl ?_
      refine r_icmp_ge_f (tgt := 48) C dX3_finish_22 (by decide) rfl (fun z => absurd ((nI_leI (a := 64) (b := i) (by omega) (by omega)).mp z) (by omega)) ?_
      refine r_aload_n C 2 dX3_finish_25 rfl rfl ?_
      refine r_get (t := 110) C koX3 g0 3 (by decide) q90 rfl rfl dX3_finish_26 rfl ?_
      refine r_bipush C (nI 64) dX3_finish_29 (by decide) rfl ?_
      refine r_irem C dX3_finish_31 (by decide) rfl ?_
      refine r_ti (show ((nI (n + 1 + i)) - (nI (n + 1 + i)) / (nI 64) * (nI 64) : Int32) = nI ((n + 1 + i) % 64) from pk_rem (by omega) (by omega) (by omega)) ?_
      refine r_bipush C (nI 56) dX3_finish_32 (by decide) rfl ?_
      refine r_icmp_eq_t (tgt := 48) C dX3_finish_34 (by decide) ((nI_eq (a := ((n + 1 + i) % 64)) (b := 56) (by omega) (by omega)).mpr (by omega)) ?_
      have g0 : w1 110 = some (a0, ob 3 [.ref am, .ref aw, .ref as9, .int (nI 120)]) := by rw [g0, show n + 1 + i = 120 by omega]
      refine r_bipush C (nI 7) dX3_finish_48 (by decide) rfl ?_
      refine r_istore_n (lv' := [(3, .int (nI 7)), (1, .long (lN (8 * n))), (0, .ref a0)]) C dX3_finish_50 (by decide) rfl rfl ?_
      refine r_iload_n C 0 dX3_finish_51 rfl rfl ?_
      refine r_if_lt_f (tgt := 72) C dX3_finish_52 (by decide) rfl (by decide) ?_
      refine r_aload_n C 2 dX3_finish_55 rfl rfl ?_
      refine r_lload_n C 1 dX3_finish_56 rfl rfl ?_
      refine r_bipush C (nI 8) dX3_finish_57 (by decide) rfl ?_
      refine r_iload_n C 0 dX3_finish_59 rfl rfl ?_
      refine r_imul C dX3_finish_60 rfl ?_
      refine r_ti (show ((nI 8) * (nI 7) : Int32) = nI (8 * 7) from pk_mul 8 7) ?_
      refine r_lushr C dX3_finish_61 rfl ?_
      refine r_l2i C dX3_finish_62 rfl ?_
      refine r_ti (show ((((lN (8 * n)).toUInt64 >>> ((nI (8 * 7)).toInt64.toUInt64 &&& Int64.toUInt64 63)).toInt64).toInt32 : Int32) = nI (8 * n / 2 ^ 56) from lsh9 (k := 56) (by omega) (by decide)) ?_
      refine r_callV (t := 110) (As := [.int (nI (8 * n / 2 ^ 56))]) (st := []) C koX3 g0 (c_addByte g0 g1 (by omega)) q359 q356 q358 qp6 q7 rfl ⟨by decide, by decide⟩ (show (parseMethodDescriptor yX3_addByte.desc).map (fun d => d.parameters.length) = some 1 by decide +kernel) (by decide) (by decide) (by decide) (by decide) (Nat.le_of_ble_eq_true rfl) rfl dX3_finish_63 rfl ?_
      rintro v9 w5 ⟨rfl, e0, e1, ef4⟩
      show V g k 4 w5 0 0 (kQ g k (fun v w' => v = none ∧ (∃ msg' wds' sta' : Nat → Int32, w' 110 = some (a0, ob 3 [.ref am, .ref aw, .ref as9, .int (nI 128)]) ∧ w' 111 = some (am, aB g 128 msg') ∧ w' 112 = some (aw, aI g 64 wds') ∧ w' 113 = some (as9, aI g 8 sta') ∧ ∀ j, j < 8 → sta' j = sum9 n f9 j) ∧ Fr w w' 110 114) 0 0) 66 [(3, .int (nI 7)), (1, .long (lN (8 * n))), (0, .ref a0)] []
      refine r_iinc (v := nI 6) (lv' := [(3, .int (nI 6)), (1, .long (lN (8 * n))), (0, .ref a0)]) C 0 dX3_finish_66 rfl (by decide) (by decide) rfl rfl ?_
      refine r_goto (tgt := 51) C dX3_finish_69 (by decide) ?_
      refine r_iload_n C 0 dX3_finish_51 rfl rfl ?_
      refine r_if_lt_f (tgt := 72) C dX3_finish_52 (by decide) rfl (by decide) ?_
      refine r_aload_n C 2 dX3_finish_55 rfl rfl ?_
      refine r_lload_n C 1 dX3_finish_56 rfl rfl ?_
      refine r_bipush C (nI 8) dX3_finish_57 (by decide) rfl ?_
      refine r_iload_n C 0 dX3_finish_59 rfl rfl ?_
      refine r_imul C dX3_finish_60 rfl ?_
      refine r_ti (show ((nI 8) * (nI 6) : Int32) = nI (8 * 6) from pk_mul 8 6) ?_
      refine r_lushr C dX3_finish_61 rfl ?_
      refine r_l2i C dX3_finish_62 rfl ?_
      refine r_ti (show ((((lN (8 * n)).toUInt64 >>> ((nI (8 * 6)).toInt64.toUInt64 &&& Int64.toUInt64 63)).toInt64).toInt32 : Int32) = nI (8 * n / 2 ^ 48) from lsh9 (k := 48) (by omega) (by decide)) ?_
      refine r_callV (t := 110) (As := [.int (nI (8 * n / 2 ^ 48))]) (st := []) C koX3 e0 (c_addByte e0 e1 (by omega)) q359 q356 q358 qp6 q7 rfl ⟨by decide, by decide⟩ (show (parseMethodDescriptor yX3_addByte.desc).map (fun d => d.parameters.length) = some 1 by decide +kernel) (by decide) (by decide) (by decide) (by decide) (Nat.le_of_ble_eq_true rfl) rfl dX3_finish_63 rfl ?_
      rintro v9 w8 ⟨rfl, e0, e1, ef7⟩
      show V g k 4 w8 0 0 (kQ g k (fun v w' => v = none ∧ (∃ msg' wds' sta' : Nat → Int32, w' 110 = some (a0, ob 3 [.ref am, .ref aw, .ref as9, .int (nI 128)]) ∧ w' 111 = some (am, aB g 128 msg') ∧ w' 112 = some (aw, aI g 64 wds') ∧ w' 113 = some (as9, aI g 8 sta') ∧ ∀ j, j < 8 → sta' j = sum9 n f9 j) ∧ Fr w w' 110 114) 0 0) 66 [(3, .int (nI 6)), (1, .long (lN (8 * n))), (0, .ref a0)] []
      refine r_iinc (v := nI 5) (lv' := [(3, .int (nI 5)), (1, .long (lN (8 * n))), (0, .ref a0)]) C 0 dX3_finish_66 rfl (by decide) (by decide) rfl rfl ?_
      refine r_goto (tgt := 51) C dX3_finish_69 (by decide) ?_
      refine r_iload_n C 0 dX3_finish_51 rfl rfl ?_
      refine r_if_lt_f (tgt := 72) C dX3_finish_52 (by decide) rfl (by decide) ?_
      refine r_aload_n C 2 dX3_finish_55 rfl rfl ?_
      refine r_lload_n C 1 dX3_finish_56 rfl rfl ?_
      refine r_bipush C (nI 8) dX3_finish_57 (by decide) rfl ?_
      refine r_iload_n C 0 dX3_finish_59 rfl rfl ?_
      refine r_imul C dX3_finish_60 rfl ?_
      refine r_ti (show ((nI 8) * (nI 5) : Int32) = nI (8 * 5) from pk_mul 8 5) ?_
      refine r_lushr C dX3_finish_61 rfl ?_
      refine r_l2i C dX3_finish_62 rfl ?_
      refine r_ti (show ((((lN (8 * n)).toUInt64 >>> ((nI (8 * 5)).toInt64.toUInt64 &&& Int64.toUInt64 63)).toInt64).toInt32 : Int32) = nI (8 * n / 2 ^ 40) from lsh9 (k := 40) (by omega) (by decide)) ?_
      refine r_callV (t := 110) (As := [.int (nI (8 * n / 2 ^ 40))]) (st := []) C koX3 e0 (c_addByte e0 e1 (by omega)) q359 q356 q358 qp6 q7 rfl ⟨by decide, by decide⟩ (show (parseMethodDescriptor yX3_addByte.desc).map (fun d => d.parameters.length) = some 1 by decide +kernel) (by decide) (by decide) (by decide) (by decide) (Nat.le_of_ble_eq_true rfl) rfl dX3_finish_63 rfl ?_
      rintro v9 w11 ⟨rfl, e0, e1, ef10⟩
      show V g k 4 w11 0 0 (kQ g k (fun v w' => v = none ∧ (∃ msg' wds' sta' : Nat → Int32, w' 110 = some (a0, ob 3 [.ref am, .ref aw, .ref as9, .int (nI 128)]) ∧ w' 111 = some (am, aB g 128 msg') ∧ w' 112 = some (aw, aI g 64 wds') ∧ w' 113 = some (as9, aI g 8 sta') ∧ ∀ j, j < 8 → sta' j = sum9 n f9 j) ∧ Fr w w' 110 114) 0 0) 66 [(3, .int (nI 5)), (1, .long (lN (8 * n))), (0, .ref a0)] []
      refine r_iinc (v := nI 4) (lv' := [(3, .int (nI 4)), (1, .long (lN (8 * n))), (0, .ref a0)]) C 0 dX3_finish_66 rfl (by decide) (by decide) rfl rfl ?_
      refine r_goto (tgt := 51) C dX3_finish_69 (by decide) ?_
      refine r_iload_n C 0 dX3_finish_51 rfl rfl ?_
      refine r_if_lt_f (tgt := 72) C dX3_finish_52 (by decide) rfl (by decide) ?_
      refine r_aload_n C 2 dX3_finish_55 rfl rfl ?_
      refine r_lload_n C 1 dX3_finish_56 rfl rfl ?_
      refine r_bipush C (nI 8) dX3_finish_57 (by decide) rfl ?_
      refine r_iload_n C 0 dX3_finish_59 rfl rfl ?_
      refine r_imul C dX3_finish_60 rfl ?_
      refine r_ti (show ((nI 8) * (nI 4) : Int32) = nI (8 * 4) from pk_mul 8 4) ?_
      refine r_lushr C dX3_finish_61 rfl ?_
      refine r_l2i C dX3_finish_62 rfl ?_
      refine r_ti (show ((((lN (8 * n)).toUInt64 >>> ((nI (8 * 4)).toInt64.toUInt64 &&& Int64.toUInt64 63)).toInt64).toInt32 : Int32) = nI (8 * n / 2 ^ 32) from lsh9 (k := 32) (by omega) (by decide)) ?_
      refine r_callV (t := 110) (As := [.int (nI (8 * n / 2 ^ 32))]) (st := []) C koX3 e0 (c_addByte e0 e1 (by omega)) q359 q356 q358 qp6 q7 rfl ⟨by decide, by decide⟩ (show (parseMethodDescriptor yX3_addByte.desc).map (fun d => d.parameters.length) = some 1 by decide +kernel) (by decide) (by decide) (by decide) (by decide) (Nat.le_of_ble_eq_true rfl) rfl dX3_finish_63 rfl ?_
      rintro v9 w14 ⟨rfl, e0, e1, ef13⟩
      show V g k 4 w14 0 0 (kQ g k (fun v w' => v = none ∧ (∃ msg' wds' sta' : Nat → Int32, w' 110 = some (a0, ob 3 [.ref am, .ref aw, .ref as9, .int (nI 128)]) ∧ w' 111 = some (am, aB g 128 msg') ∧ w' 112 = some (aw, aI g 64 wds') ∧ w' 113 = some (as9, aI g 8 sta') ∧ ∀ j, j < 8 → sta' j = sum9 n f9 j) ∧ Fr w w' 110 114) 0 0) 66 [(3, .int (nI 4)), (1, .long (lN (8 * n))), (0, .ref a0)] []
      refine r_iinc (v := nI 3) (lv' := [(3, .int (nI 3)), (1, .long (lN (8 * n))), (0, .ref a0)]) C 0 dX3_finish_66 rfl (by decide) (by decide) rfl rfl ?_
      refine r_goto (tgt := 51) C dX3_finish_69 (by decide) ?_
      refine r_iload_n C 0 dX3_finish_51 rfl rfl ?_
      refine r_if_lt_f (tgt := 72) C dX3_finish_52 (by decide) rfl (by decide) ?_
      refine r_aload_n C 2 dX3_finish_55 rfl rfl ?_
      refine r_lload_n C 1 dX3_finish_56 rfl rfl ?_
      refine r_bipush C (nI 8) dX3_finish_57 (by decide) rfl ?_
      refine r_iload_n C 0 dX3_finish_59 rfl rfl ?_
      refine r_imul C dX3_finish_60 rfl ?_
      refine r_ti (show ((nI 8) * (nI 3) : Int32) = nI (8 * 3) from pk_mul 8 3) ?_
      refine r_lushr C dX3_finish_61 rfl ?_
      refine r_l2i C dX3_finish_62 rfl ?_
      refine r_ti (show ((((lN (8 * n)).toUInt64 >>> ((nI (8 * 3)).toInt64.toUInt64 &&& Int64.toUInt64 63)).toInt64).toInt32 : Int32) = nI (8 * n / 2 ^ 24) from lsh9 (k := 24) (by omega) (by decide)) ?_
      refine r_callV (t := 110) (As := [.int (nI (8 * n / 2 ^ 24))]) (st := []) C koX3 e0 (c_addByte e0 e1 (by omega)) q359 q356 q358 qp6 q7 rfl ⟨by decide, by decide⟩ (show (parseMethodDescriptor yX3_addByte.desc).map (fun d => d.parameters.length) = some 1 by decide +kernel) (by decide) (by decide) (by decide) (by decide) (Nat.le_of_ble_eq_true rfl) rfl dX3_finish_63 rfl ?_
      rintro v9 w17 ⟨rfl, e0, e1, ef16⟩
      show V g k 4 w17 0 0 (kQ g k (fun v w' => v = none ∧ (∃ msg' wds' sta' : Nat → Int32, w' 110 = some (a0, ob 3 [.ref am, .ref aw, .ref as9, .int (nI 128)]) ∧ w' 111 = some (am, aB g 128 msg') ∧ w' 112 = some (aw, aI g 64 wds') ∧ w' 113 = some (as9, aI g 8 sta') ∧ ∀ j, j < 8 → sta' j = sum9 n f9 j) ∧ Fr w w' 110 114) 0 0) 66 [(3, .int (nI 3)), (1, .long (lN (8 * n))), (0, .ref a0)] []
      refine r_iinc (v := nI 2) (lv' := [(3, .int (nI 2)), (1, .long (lN (8 * n))), (0, .ref a0)]) C 0 dX3_finish_66 rfl (by decide) (by decide) rfl rfl ?_
      refine r_goto (tgt := 51) C dX3_finish_69 (by decide) ?_
      refine r_iload_n C 0 dX3_finish_51 rfl rfl ?_
      refine r_if_lt_f (tgt := 72) C dX3_finish_52 (by decide) rfl (by decide) ?_
      refine r_aload_n C 2 dX3_finish_55 rfl rfl ?_
      refine r_lload_n C 1 dX3_finish_56 rfl rfl ?_
      refine r_bipush C (nI 8) dX3_finish_57 (by decide) rfl ?_
      refine r_iload_n C 0 dX3_finish_59 rfl rfl ?_
      refine r_imul C dX3_finish_60 rfl ?_
      refine r_ti (show ((nI 8) * (nI 2) : Int32) = nI (8 * 2) from pk_mul 8 2) ?_
      refine r_lushr C dX3_finish_61 rfl ?_
      refine r_l2i C dX3_finish_62 rfl ?_
      refine r_ti (show ((((lN (8 * n)).toUInt64 >>> ((nI (8 * 2)).toInt64.toUInt64 &&& Int64.toUInt64 63)).toInt64).toInt32 : Int32) = nI (8 * n / 2 ^ 16) from lsh9 (k := 16) (by omega) (by decide)) ?_
      refine r_callV (t := 110) (As := [.int (nI (8 * n / 2 ^ 16))]) (st := []) C koX3 e0 (c_addByte e0 e1 (by omega)) q359 q356 q358 qp6 q7 rfl ⟨by decide, by decide⟩ (show (parseMethodDescriptor yX3_addByte.desc).map (fun d => d.parameters.length) = some 1 by decide +kernel) (by decide) (by decide) (by decide) (by decide) (Nat.le_of_ble_eq_true rfl) rfl dX3_finish_63 rfl ?_
      rintro v9 w20 ⟨rfl, e0, e1, ef19⟩
      show V g k 4 w20 0 0 (kQ g k (fun v w' => v = none ∧ (∃ msg' wds' sta' : Nat → Int32, w' 110 = some (a0, ob 3 [.ref am, .ref aw, .ref as9, .int (nI 128)]) ∧ w' 111 = some (am, aB g 128 msg') ∧ w' 112 = some (aw, aI g 64 wds') ∧ w' 113 = some (as9, aI g 8 sta') ∧ ∀ j, j < 8 → sta' j = sum9 n f9 j) ∧ Fr w w' 110 114) 0 0) 66 [(3, .int (nI 2)), (1, .long (lN (8 * n))), (0, .ref a0)] []
      refine r_iinc (v := nI 1) (lv' := [(3, .int (nI 1)), (1, .long (lN (8 * n))), (0, .ref a0)]) C 0 dX3_finish_66 rfl (by decide) (by decide) rfl rfl ?_
      refine r_goto (tgt := 51) C dX3_finish_69 (by decide) ?_
      refine r_iload_n C 0 dX3_finish_51 rfl rfl ?_
      refine r_if_lt_f (tgt := 72) C dX3_finish_52 (by decide) rfl (by decide) ?_
      refine r_aload_n C 2 dX3_finish_55 rfl rfl ?_
      refine r_lload_n C 1 dX3_finish_56 rfl rfl ?_
      refine r_bipush C (nI 8) dX3_finish_57 (by decide) rfl ?_
      refine r_iload_n C 0 dX3_finish_59 rfl rfl ?_
      refine r_imul C dX3_finish_60 rfl ?_
      refine r_ti (show ((nI 8) * (nI 1) : Int32) = nI (8 * 1) from pk_mul 8 1) ?_
      refine r_lushr C dX3_finish_61 rfl ?_
      refine r_l2i C dX3_finish_62 rfl ?_
      refine r_ti (show ((((lN (8 * n)).toUInt64 >>> ((nI (8 * 1)).toInt64.toUInt64 &&& Int64.toUInt64 63)).toInt64).toInt32 : Int32) = nI (8 * n / 2 ^ 8) from lsh9 (k := 8) (by omega) (by decide)) ?_
      refine r_callV (t := 110) (As := [.int (nI (8 * n / 2 ^ 8))]) (st := []) C koX3 e0 (c_addByte e0 e1 (by omega)) q359 q356 q358 qp6 q7 rfl ⟨by decide, by decide⟩ (show (parseMethodDescriptor yX3_addByte.desc).map (fun d => d.parameters.length) = some 1 by decide +kernel) (by decide) (by decide) (by decide) (by decide) (Nat.le_of_ble_eq_true rfl) rfl dX3_finish_63 rfl ?_
      rintro v9 w23 ⟨rfl, e0, e1, ef22⟩
      show V g k 4 w23 0 0 (kQ g k (fun v w' => v = none ∧ (∃ msg' wds' sta' : Nat → Int32, w' 110 = some (a0, ob 3 [.ref am, .ref aw, .ref as9, .int (nI 128)]) ∧ w' 111 = some (am, aB g 128 msg') ∧ w' 112 = some (aw, aI g 64 wds') ∧ w' 113 = some (as9, aI g 8 sta') ∧ ∀ j, j < 8 → sta' j = sum9 n f9 j) ∧ Fr w w' 110 114) 0 0) 66 [(3, .int (nI 1)), (1, .long (lN (8 * n))), (0, .ref a0)] []
      refine r_iinc (v := nI 0) (lv' := [(3, .int (nI 0)), (1, .long (lN (8 * n))), (0, .ref a0)]) C 0 dX3_finish_66 rfl (by decide) (by decide) rfl rfl ?_
      refine r_goto (tgt := 51) C dX3_finish_69 (by decide) ?_
      refine r_iload_n C 0 dX3_finish_51 rfl rfl ?_
      refine r_if_lt_f (tgt := 72) C dX3_finish_52 (by decide) rfl (by decide) ?_
      refine r_aload_n C 2 dX3_finish_55 rfl rfl ?_
      refine r_lload_n C 1 dX3_finish_56 rfl rfl ?_
      refine r_bipush C (nI 8) dX3_finish_57 (by decide) rfl ?_
      refine r_iload_n C 0 dX3_finish_59 rfl rfl ?_
      refine r_imul C dX3_finish_60 rfl ?_
      refine r_ti (show ((nI 8) * (nI 0) : Int32) = nI (8 * 0) from pk_mul 8 0) ?_
      refine r_lushr C dX3_finish_61 rfl ?_
      refine r_l2i C dX3_finish_62 rfl ?_
      refine r_ti (show ((((lN (8 * n)).toUInt64 >>> ((nI (8 * 0)).toInt64.toUInt64 &&& Int64.toUInt64 63)).toInt64).toInt32 : Int32) = nI (8 * n / 2 ^ 0) from lsh9 (k := 0) (by omega) (by decide)) ?_
      refine r_callV (t := 110) (As := [.int (nI (8 * n / 2 ^ 0))]) (st := []) C koX3 e0 (c_addByte e0 e1 (by omega)) q359 q356 q358 qp6 q7 rfl ⟨by decide, by decide⟩ (show (parseMethodDescriptor yX3_addByte.desc).map (fun d => d.parameters.length) = some 1 by decide +kernel) (by decide) (by decide) (by decide) (by decide) (Nat.le_of_ble_eq_true rfl) rfl dX3_finish_63 rfl ?_
      rintro v9 w26 ⟨rfl, e0, e1, ef25⟩
      show V g k 4 w26 0 0 (kQ g k (fun v w' => v = none ∧ (∃ msg' wds' sta' : Nat → Int32, w' 110 = some (a0, ob 3 [.ref am, .ref aw, .ref as9, .int (nI 128)]) ∧ w' 111 = some (am, aB g 128 msg') ∧ w' 112 = some (aw, aI g 64 wds') ∧ w' 113 = some (as9, aI g 8 sta') ∧ ∀ j, j < 8 → sta' j = sum9 n f9 j) ∧ Fr w w' 110 114) 0 0) 66 [(3, .int (nI 0)), (1, .long (lN (8 * n))), (0, .ref a0)] []
      refine r_iinc (v := (-1)) (lv' := [(3, .int (-1)), (1, .long (lN (8 * n))), (0, .ref a0)]) C 0 dX3_finish_66 rfl (by decide) (by decide) rfl rfl ?_
      refine r_goto (tgt := 51) C dX3_finish_69 (by decide) ?_
      refine r_iload_n C 0 dX3_finish_51 rfl rfl ?_
      refine r_if_lt_t (tgt := 72) C dX3_finish_52 (by decide) (by decide) ?_
      refine r_getsN C (ks_S C) q369 rfl dX3_finish_72 rfl ?_
      refine r_iconst C (nI 0) dX3_finish_75 (by decide) rfl ?_
      refine r_aload_n C 2 dX3_finish_76 rfl rfl ?_
      refine r_get (t := 110) C koX3 e0 2 (by decide) q89 rfl rfl dX3_finish_77 rfl ?_
      refine r_iconst C (nI 0) dX3_finish_80 (by decide) rfl ?_
      refine r_bipush C (nI 8) dX3_finish_81 (by decide) rfl ?_
      refine r_copySI (t1 := 113) (w' := wd_set w26 113 as9 (aI g 8 (va_cpy kSq sta 0 0 8))) C (ks_St C) ((ef25 113 (by omega)).trans ((ef22 113 (by omega)).trans ((ef19 113 (by omega)).trans ((ef16 113 (by omega)).trans ((ef13 113 (by omega)).trans ((ef10 113 (by omega)).trans ((ef7 113 (by omega)).trans ((ef4 113 (by omega)).trans g3)))))))) q371 q264 q263 q16 0 0 8 rfl rfl rfl (by decide) (by decide) (by decide) (by decide) (by decide) (Nat.le_of_ble_eq_true rfl) dX3_finish_83 rfl rfl ?_
      refine r_iconst C (nI 0) dX3_finish_86 (by decide) rfl ?_
      refine r_istore_n (lv' := [(3, .int (nI 0)), (1, .long (lN (8 * n))), (0, .ref a0)]) C dX3_finish_87 (by decide) rfl rfl ?_
      refine r_iload_n C 0 dX3_finish_88 rfl rfl ?_
      refine r_bipush C (nI 64) dX3_finish_89 (by decide) rfl ?_
      refine r_iadd C dX3_finish_91 rfl ?_
      refine r_ti (show ((nI 0) + (nI 64) : Int32) = nI (0 + 64) from nI_add 0 64) ?_
      refine r_aload_n C 2 dX3_finish_92 rfl rfl ?_
      refine r_get (t := 110) C koX3 ((wd_ne (by decide)).trans e0) 3 (by decide) q90 rfl rfl dX3_finish_93 rfl ?_
      refine r_icmp_gt_f (tgt := 114) C dX3_finish_96 (by decide) rfl (fun z => absurd ((nI_ltI (a := 128) (b := (0 + 64)) (by omega) (by omega)).mp z) (by omega)) ?_
      refine r_aload_n C 2 dX3_finish_99 rfl rfl ?_
      refine r_iload_n C 0 dX3_finish_100 rfl rfl ?_
      refine r_callV (t := 110) (As := [.int (nI 0)]) (st := []) C koX3 ((wd_ne (by decide)).trans e0) (c_readWords ((wd_ne (by decide)).trans e0) ((wd_ne (by decide)).trans e1) ((wd_ne (by decide)).trans ((ef25 112 (by omega)).trans ((ef22 112 (by omega)).trans ((ef19 112 (by omega)).trans ((ef16 112 (by omega)).trans ((ef13 112 (by omega)).trans ((ef10 112 (by omega)).trans ((ef7 112 (by omega)).trans ((ef4 112 (by omega)).trans g2))))))))) (by decide)) q375 q372 q374 qp7 q7 rfl ⟨by decide, by decide⟩ (show (parseMethodDescriptor yX3_readWords.desc).map (fun d => d.parameters.length) = some 1 by decide +kernel) (by decide) (by decide) (by decide) (by decide) (Nat.le_of_ble_eq_true rfl) rfl dX3_finish_101 rfl ?_
      rintro v9 w29 ⟨rfl, ⟨wd0, r2, s0⟩, rf28⟩
      show V g k 4 w29 0 0 (kQ g k (fun v w' => v = none ∧ (∃ msg' wds' sta' : Nat → Int32, w' 110 = some (a0, ob 3 [.ref am, .ref aw, .ref as9, .int (nI 128)]) ∧ w' 111 = some (am, aB g 128 msg') ∧ w' 112 = some (aw, aI g 64 wds') ∧ w' 113 = some (as9, aI g 8 sta') ∧ ∀ j, j < 8 → sta' j = sum9 n f9 j) ∧ Fr w w' 110 114) 0 0) 104 [(3, .int (nI 0)), (1, .long (lN (8 * n))), (0, .ref a0)] []
      refine r_aload_n C 2 dX3_finish_104 rfl rfl ?_
      refine r_callV (t := 110) (As := []) (st := []) C koX3 ((rf28 110 (by omega)).trans ((wd_ne (by decide)).trans e0)) (c_mixWords ((rf28 110 (by omega)).trans ((wd_ne (by decide)).trans e0)) r2 ((rf28 113 (by omega)).trans wd_eq)) q388 q385 q387 qp8 q7 rfl ⟨by decide, by decide⟩ (show (parseMethodDescriptor yX3_mixWords.desc).map (fun d => d.parameters.length) = some 0 by decide +kernel) (by decide) (by decide) (by decide) (by decide) (Nat.le_of_ble_eq_true rfl) rfl dX3_finish_105 rfl ?_
      rintro v9 w32 ⟨rfl, ⟨st0, r3, u0⟩, rf31⟩
      show V g k 4 w32 0 0 (kQ g k (fun v w' => v = none ∧ (∃ msg' wds' sta' : Nat → Int32, w' 110 = some (a0, ob 3 [.ref am, .ref aw, .ref as9, .int (nI 128)]) ∧ w' 111 = some (am, aB g 128 msg') ∧ w' 112 = some (aw, aI g 64 wds') ∧ w' 113 = some (as9, aI g 8 sta') ∧ ∀ j, j < 8 → sta' j = sum9 n f9 j) ∧ Fr w w' 110 114) 0 0) 108 [(3, .int (nI 0)), (1, .long (lN (8 * n))), (0, .ref a0)] []
      refine r_iinc (v := nI 64) (lv' := [(3, .int (nI 64)), (1, .long (lN (8 * n))), (0, .ref a0)]) C 0 dX3_finish_108 rfl (nI_add 0 64) (by decide) rfl rfl ?_
      refine r_goto (tgt := 88) C dX3_finish_111 (by decide) ?_
      refine r_iload_n C 0 dX3_finish_88 rfl rfl ?_
      refine r_bipush C (nI 64) dX3_finish_89 (by decide) rfl ?_
      refine r_iadd C dX3_finish_91 rfl ?_
      refine r_ti (show ((nI 64) + (nI 64) : Int32) = nI (64 + 64) from nI_add 64 64) ?_
      refine r_aload_n C 2 dX3_finish_92 rfl rfl ?_
      refine r_get (t := 110) C koX3 ((rf31 110 (by omega)).trans ((rf28 110 (by omega)).trans ((wd_ne (by decide)).trans e0))) 3 (by decide) q90 rfl rfl dX3_finish_93 rfl ?_
      refine r_icmp_gt_f (tgt := 114) C dX3_finish_96 (by decide) rfl (fun z => absurd ((nI_ltI (a := 128) (b := (64 + 64)) (by omega) (by omega)).mp z) (by omega)) ?_
      refine r_aload_n C 2 dX3_finish_99 rfl rfl ?_
      refine r_iload_n C 0 dX3_finish_100 rfl rfl ?_
      refine r_callV (t := 110) (As := [.int (nI 64)]) (st := []) C koX3 ((rf31 110 (by omega)).trans ((rf28 110 (by omega)).trans ((wd_ne (by decide)).trans e0))) (c_readWords ((rf31 110 (by omega)).trans ((rf28 110 (by omega)).trans ((wd_ne (by decide)).trans e0))) ((rf31 111 (by omega)).trans ((rf28 111 (by omega)).trans ((wd_ne (by decide)).trans e1))) ((rf31 112 (by omega)).trans r2) (by decide)) q375 q372 q374 qp7 q7 rfl ⟨by decide, by decide⟩ (show (parseMethodDescriptor yX3_readWords.desc).map (fun d => d.parameters.length) = some 1 by decide +kernel) (by decide) (by decide) (by decide) (by decide) (Nat.le_of_ble_eq_true rfl) rfl dX3_finish_101 rfl ?_
      rintro v9 w35 ⟨rfl, ⟨wd1, r2, s1⟩, rf34⟩
      show V g k 4 w35 0 0 (kQ g k (fun v w' => v = none ∧ (∃ msg' wds' sta' : Nat → Int32, w' 110 = some (a0, ob 3 [.ref am, .ref aw, .ref as9, .int (nI 128)]) ∧ w' 111 = some (am, aB g 128 msg') ∧ w' 112 = some (aw, aI g 64 wds') ∧ w' 113 = some (as9, aI g 8 sta') ∧ ∀ j, j < 8 → sta' j = sum9 n f9 j) ∧ Fr w w' 110 114) 0 0) 104 [(3, .int (nI 64)), (1, .long (lN (8 * n))), (0, .ref a0)] []
      refine r_aload_n C 2 dX3_finish_104 rfl rfl ?_
      refine r_callV (t := 110) (As := []) (st := []) C koX3 ((rf34 110 (by omega)).trans ((rf31 110 (by omega)).trans ((rf28 110 (by omega)).trans ((wd_ne (by decide)).trans e0)))) (c_mixWords ((rf34 110 (by omega)).trans ((rf31 110 (by omega)).trans ((rf28 110 (by omega)).trans ((wd_ne (by decide)).trans e0)))) r2 ((rf34 113 (by omega)).trans r3)) q388 q385 q387 qp8 q7 rfl ⟨by decide, by decide⟩ (show (parseMethodDescriptor yX3_mixWords.desc).map (fun d => d.parameters.length) = some 0 by decide +kernel) (by decide) (by decide) (by decide) (by decide) (Nat.le_of_ble_eq_true rfl) rfl dX3_finish_105 rfl ?_
      rintro v9 w38 ⟨rfl, ⟨st1, r3, u1⟩, rf37⟩
      show V g k 4 w38 0 0 (kQ g k (fun v w' => v = none ∧ (∃ msg' wds' sta' : Nat → Int32, w' 110 = some (a0, ob 3 [.ref am, .ref aw, .ref as9, .int (nI 128)]) ∧ w' 111 = some (am, aB g 128 msg') ∧ w' 112 = some (aw, aI g 64 wds') ∧ w' 113 = some (as9, aI g 8 sta') ∧ ∀ j, j < 8 → sta' j = sum9 n f9 j) ∧ Fr w w' 110 114) 0 0) 108 [(3, .int (nI 64)), (1, .long (lN (8 * n))), (0, .ref a0)] []
      refine r_iinc (v := nI 128) (lv' := [(3, .int (nI 128)), (1, .long (lN (8 * n))), (0, .ref a0)]) C 0 dX3_finish_108 rfl (nI_add 64 64) (by decide) rfl rfl ?_
      refine r_goto (tgt := 88) C dX3_finish_111 (by decide) ?_
      refine r_iload_n C 0 dX3_finish_88 rfl rfl ?_
      refine r_bipush C (nI 64) dX3_finish_89 (by decide) rfl ?_
      refine r_iadd C dX3_finish_91 rfl ?_
      refine r_ti (show ((nI 128) + (nI 64) : Int32) = nI (128 + 64) from nI_add 128 64) ?_
      refine r_aload_n C 2 dX3_finish_92 rfl rfl ?_
      refine r_get (t := 110) C koX3 ((rf37 110 (by omega)).trans ((rf34 110 (by omega)).trans ((rf31 110 (by omega)).trans ((rf28 110 (by omega)).trans ((wd_ne (by decide)).trans e0))))) 3 (by decide) q90 rfl rfl dX3_finish_93 rfl ?_
      refine r_icmp_gt_t (tgt := 114) C dX3_finish_96 (by decide) ((nI_ltI (a := 128) (b := (128 + 64)) (by omega) (by omega)).mpr (by omega)) ?_
      have hmm := fin_msg hn hn2 (m := m1) (f := f9) q1 q2 (fun j a b => q3 j a (by omega)) (x7 := nI (8 * n / 2 ^ 56)) (x6 := nI (8 * n / 2 ^ 48)) (x5 := nI (8 * n / 2 ^ 40)) (x4 := nI (8 * n / 2 ^ 32)) (x3 := nI (8 * n / 2 ^ 24)) (x2 := nI (8 * n / 2 ^ 16)) (by rw [Nat.div_eq_of_lt (by omega)]) (by rw [Nat.div_eq_of_lt (by omega)]) (by rw [Nat.div_eq_of_lt (by omega)]) (by rw [Nat.div_eq_of_lt (by omega)]) (by rw [Nat.div_eq_of_lt (by omega)]) (by rw [Nat.div_eq_of_lt (by omega)])
      refine r_vret C rfl (by decide) (by decide) dX3_finish_114 ⟨rfl, ⟨_, _, _, ((rf37 110 (by omega)).trans ((rf34 110 (by omega)).trans ((rf31 110 (by omega)).trans ((rf28 110 (by omega)).trans ((wd_ne (by decide)).trans e0))))), ((rf37 111 (by omega)).trans ((rf34 111 (by omega)).trans ((rf31 111 (by omega)).trans ((rf28 111 (by omega)).trans ((wd_ne (by decide)).trans e1))))), ((rf37 112 (by omega)).trans r2), r3, sum9_of hmm (fun j hj => (pk_cpy_in (Nat.zero_le j) (by omega)).trans (by rw [Nat.zero_add, Nat.sub_zero])) s0 u0 s1 u1⟩, ?_⟩
      exact (Fr.trans (Fr.trans (Fr.trans (Fr.trans (Fr.trans (Fr.trans (Fr.trans (Fr.trans (Fr.trans (Fr.trans (Fr.trans (Fr.trans (Fr.trans (gf.mono (by decide) (by decide)) (ef4.mono (by decide) (by decide))) (ef7.mono (by decide) (by decide))) (ef10.mono (by decide) (by decide))) (ef13.mono (by decide) (by decide))) (ef16.mono (by decide) (by decide))) (ef19.mono (by decide) (by decide))) (ef22.mono (by decide) (by decide))) (ef25.mono (by decide) (by decide))) (Fr.set (t := 113) (by decide) (by decide))) (rf28.mono (by decide) (by decide))) (rf31.mono (by decide) (by decide))) (rf34.mono (by decide) (by decide))) (rf37.mono (by decide) (by decide)))
    | succ r ih =>
      intro i m1 w1 hi g0 g1 q1 q2 q3 gf
      have g2 : w1 112 = _ := (gf 112 (by decide)).trans h2
      have g3 : w1 113 = _ := (gf 113 (by decide)).trans h3
      refine r_iload_n C 0 dX3_finish_19 rfl rfl ?_
      refine r_bipush C (nI 64) dX3_finish_20 (by decide) rfl ?_
      refine r_icmp_ge_f (tgt := 48) C dX3_finish_22 (by decide) rfl (fun z => absurd ((nI_leI (a := 64) (b := i) (by omega) (by omega)).mp z) (by omega)) ?_
      refine r_aload_n C 2 dX3_finish_25 rfl rfl ?_
      refine r_get (t := 110) C koX3 g0 3 (by decide) q90 rfl rfl dX3_finish_26 rfl ?_
      refine r_bipush C (nI 64) dX3_finish_29 (by decide) rfl ?_
      refine r_irem C dX3_finish_31 (by decide) rfl ?_
      refine r_ti (show ((nI (n + 1 + i)) - (nI (n + 1 + i)) / (nI 64) * (nI 64) : Int32) = nI ((n + 1 + i) % 64) from pk_rem (by omega) (by omega) (by omega)) ?_
      refine r_bipush C (nI 56) dX3_finish_32 (by decide) rfl ?_
      refine r_icmp_eq_f (tgt := 48) C dX3_finish_34 (by decide) rfl (fun z => absurd ((nI_eq (a := ((n + 1 + i) % 64)) (b := 56) (by omega) (by omega)).mp z) (by omega)) ?_
      refine r_aload_n C 2 dX3_finish_37 rfl rfl ?_
      refine r_iconst C (nI 0) dX3_finish_38 (by decide) rfl ?_
      refine r_callV (t := 110) (As := [.int (nI 0)]) (st := []) C koX3 g0 (c_addByte g0 g1 (by omega)) q359 q356 q358 qp6 q7 rfl ⟨by decide, by decide⟩ (show (parseMethodDescriptor yX3_addByte.desc).map (fun d => d.parameters.length) = some 1 by decide +kernel) (by decide) (by decide) (by decide) (by decide) (Nat.le_of_ble_eq_true rfl) rfl dX3_finish_39 rfl ?_
      rintro v9 w42 ⟨rfl, e0, e1, ef41⟩
      show V g k 4 w42 0 0 (kQ g k (fun v w' => v = none ∧ (∃ msg' wds' sta' : Nat → Int32, w' 110 = some (a0, ob 3 [.ref am, .ref aw, .ref as9, .int (nI 128)]) ∧ w' 111 = some (am, aB g 128 msg') ∧ w' 112 = some (aw, aI g 64 wds') ∧ w' 113 = some (as9, aI g 8 sta') ∧ ∀ j, j < 8 → sta' j = sum9 n f9 j) ∧ Fr w w' 110 114) 0 0) 42 [(3, .int (nI i)), (1, .long (lN (8 * n))), (0, .ref a0)] []
      refine r_iinc (v := nI (i + 1)) (lv' := [(3, .int (nI (i + 1))), (1, .long (lN (8 * n))), (0, .ref a0)]) C 0 dX3_finish_42 rfl (nI_1 i) (by decide) rfl rfl ?_
      refine r_goto (tgt := 19) C dX3_finish_45 (by decide) ?_
      refine r_sub (lv' := [(3, .int (nI (i + 1))), (1, .long (lN (8 * n))), (0, .ref a0)]) [0, 1, 2] rfl ?_
      refine ih (i + 1) _ _ (by omega) e0 e1 ?_ ?_ ?_ (gf.trans ef41)
      · intro j hj; rw [pk_un (by omega)]; exact q1 j hj
      · rw [pk_un (by omega)]; exact q2
      · intro j hj hj2
        by_cases z : j = n + 1 + i
        · rw [z, pk_us]
        · rw [pk_un z]; exact q3 j hj (by omega)
  refine r_sub (lv' := [(3, .int (nI 0)), (1, .long (lN (8 * n))), (0, .ref a0)]) [0, 1, 2] rfl ?_
  refine loop (119 - n) 0 _ _ (by omega) e0 e1 ?_ ?_ ?_ ef1
  · intro j hj; rw [pk_un (by omega)]; exact hm j hj
  · exact pk_us
  · intro j hj hj2; exact absurd hj2 (by omega)

/-- 32 bytes of a state at a place of a row -/
def cpF (f : Nat → Int32) (fr c : Nat) (S : Nat → Int32) : Nat → Int32 := fun j => if fr ≤ j ∧ j < fr + c then dig9 S (j - fr) else f j
theorem cpF_0 {f S : Nat → Int32} {n : Nat} : cpF f n 0 S = f := by
  funext j
  exact if_neg (by omega)
theorem cpF_s {f S : Nat → Int32} {n c : Nat} : upd (cpF f n c S) (n + c) (dig9 S c).toInt8.toInt32 = cpF f n (c + 1) S := by
  funext j
  unfold upd cpF
  by_cases h : j = n + c
  · subst h
    rw [if_pos rfl, if_pos (by omega), dig9_8, Nat.add_sub_cancel_left]
  · rw [if_neg h]
    by_cases h2 : n ≤ j ∧ j < n + c
    · rw [if_pos h2, if_pos (by omega)]
    · rw [if_neg h2, if_neg (by omega)]
theorem dig9_congr {S T : Nat → Int32} (h : ∀ j, j < 8 → S j = T j) {k : Nat} (hk : k < 32) : dig9 S k = dig9 T k := by
  unfold dig9
  rw [h (k / 4) (by omega)]
set_option maxHeartbeats 4000000 in
set_option maxRecDepth 20000 in
theorem c_copyTo {l : Launch} {g : cx_G} {w : wd_T} {a0 am aw as9 : Nat} {n : Int32} {sta : Nat → Int32} {tb ab nb fr : Nat} {fb : Nat → Int32} (h0 : w 110 = some (a0, ob 3 [.ref am, .ref aw, .ref as9, .int n])) (h3 : w 113 = some (as9, aI g 8 sta)) (hb : w tb = some (ab, aB g nb fb)) (htb : tb < 110 ∨ 114 ≤ tb) (hfr : fr + 32 ≤ nb) (hnb : nb < 65536) : Mt l g yX3_copyTo cX3_copyTo 5 none 1 0 0 w [.ref a0, .ref ab, .int (nI fr)] (fun v w' => v = none ∧ w' tb = some (ab, aB g nb (cpF fb fr 32 sta)) ∧ Fr w w' tb (tb + 1)) := by
  refine mt_of RX3 "copyTo" rfl rfl (by decide) (Nat.le_of_ble_eq_true rfl) [(0, .ref a0), (1, .ref ab), (2, .int (nI fr))] rfl ?_
  intro k hkl C hin
  subst hkl
  refine r_iconst C (nI 0) dX3_copyTo_0 (by decide) rfl ?_
  refine r_istore_n (lv' := [(3, .int (nI 0)), (0, .ref a0), (1, .ref ab), (2, .int (nI fr))]) C dX3_copyTo_1 (by decide) rfl rfl ?_
  have loop : ∀ (r i : Nat)  (w1 : wd_T), i + r = 32 → (w1 tb = some (ab, aB g nb (cpF fb fr i sta))) → (Fr w w1 tb (tb + 1)) → V g k 5 w1 0 0 (kQ g k (fun v w' => v = none ∧ w' tb = some (ab, aB g nb (cpF fb fr 32 sta)) ∧ Fr w w' tb (tb + 1)) 0 0) 2 [(3, .int (nI i)), (0, .ref a0), (1, .ref ab), (2, .int (nI fr))] [] := by
    intro r
    induction r with
    | zero =>
      intro i  w1 hi gb gf
      have g0 : w1 110 = _ := (gf 110 (by omega)).trans h0
      have g3 : w1 113 = _ := (gf 113 (by omega)).trans h3
      refine r_iload_n C 0 dX3_copyTo_2 rfl rfl ?_
      refine r_bipush C (nI 32) dX3_copyTo_3 (by decide) rfl ?_
      refine r_icmp_ge_t (tgt := 40) C dX3_copyTo_5 (by decide) ((nI_leI (a := 32) (b := i) (by omega) (by omega)).mpr (by omega)) ?_
      obtain rfl : i = 32 := by omega
      exact r_vret C rfl (by decide) (by decide) dX3_copyTo_40 ⟨rfl, gb, gf⟩
    | succ r ih =>
      intro i  w1 hi gb gf
      have g0 : w1 110 = _ := (gf 110 (by omega)).trans h0
      have g3 : w1 113 = _ := (gf 113 (by omega)).trans h3
      refine r_iload_n C 0 dX3_copyTo_2 rfl rfl ?_
      refine r_bipush C (nI 32) dX3_copyTo_3 (by decide) rfl ?_
      refine r_icmp_ge_f (tgt := 40) C dX3_copyTo_5 (by decide) rfl (fun z => absurd ((nI_leI (a := 32) (b := i) (by omega) (by omega)).mp z) (by omega)) ?_
      refine r_iload_n C 3 dX3_copyTo_8 rfl rfl ?_
      refine r_iload_n C 0 dX3_copyTo_9 rfl rfl ?_
      refine r_iadd C dX3_copyTo_10 rfl ?_
      refine r_ti (show ((nI fr) + (nI i) : Int32) = nI (fr + i) from nI_add fr i) ?_
      refine r_istore (lv' := [(4, .int (nI (fr + i))), (3, .int (nI i)), (0, .ref a0), (1, .ref ab), (2, .int (nI fr))]) C dX3_copyTo_11 (by decide) rfl rfl ?_
      refine r_iload C 0 dX3_copyTo_13 rfl rfl ?_
      refine r_if_lt_f (tgt := 34) C dX3_copyTo_15 (by decide) rfl (nI_pos (by omega)) ?_
      refine r_iload C 0 dX3_copyTo_18 rfl rfl ?_
      refine r_aload_n C 3 dX3_copyTo_20 rfl rfl ?_
      refine r_blen (t := tb) C gb dX3_copyTo_21 rfl ?_
      refine r_icmp_ge_f (tgt := 34) C dX3_copyTo_22 (by decide) rfl (fun z => absurd ((nI_leI (a := nb) (b := (fr + i)) (by omega) (by omega)).mp z) (by omega)) ?_
      refine r_aload_n C 3 dX3_copyTo_25 rfl rfl ?_
      refine r_iload C 0 dX3_copyTo_26 rfl rfl ?_
      refine r_aload_n C 2 dX3_copyTo_28 rfl rfl ?_
      refine r_iload_n C 1 dX3_copyTo_29 rfl rfl ?_
      refine r_callV (t := 110) (As := [.int (nI i)]) (st := [.int (nI (fr + i)), .ref ab]) C koX3 g0 (c_sumByte g0 g3 (by omega)) q398 q395 q397 qp9 q7 rfl ⟨by decide, by decide⟩ (show (parseMethodDescriptor yX3_sumByte.desc).map (fun d => d.parameters.length) = some 1 by decide +kernel) (by decide) (by decide) (by decide) (by decide) (Nat.le_of_ble_eq_true rfl) rfl dX3_copyTo_30 rfl ?_
      rintro v9 w2 ⟨rfl, rfl⟩
      show V g k 5 w1 0 0 (kQ g k (fun v w' => v = none ∧ w' tb = some (ab, aB g nb (cpF fb fr 32 sta)) ∧ Fr w w' tb (tb + 1)) 0 0) 33 [(4, .int (nI (fr + i))), (3, .int (nI i)), (0, .ref a0), (1, .ref ab), (2, .int (nI fr))] [.int (dig9 sta i), .int (nI (fr + i)), .ref ab]
      refine r_bast (t := tb) (w' := wd_set w1 tb ab (aB g nb (upd (cpF fb fr i sta) (fr + i) (dig9 sta i).toInt8.toInt32))) C gb (fr + i) rfl (by omega) (by omega) dX3_copyTo_33 rfl rfl ?_
      refine r_iinc (v := nI (i + 1)) (lv' := [(3, .int (nI (i + 1))), (4, .int (nI (fr + i))), (0, .ref a0), (1, .ref ab), (2, .int (nI fr))]) C 1 dX3_copyTo_34 rfl (nI_1 i) (by decide) rfl rfl ?_
      refine r_goto (tgt := 2) C dX3_copyTo_37 (by decide) ?_
      refine r_sub (lv' := [(3, .int (nI (i + 1))), (0, .ref a0), (1, .ref ab), (2, .int (nI fr))]) [0, 2, 3, 4] rfl ?_
      exact ih (i + 1) _ (by omega) (by rw [← cpF_s]; exact wd_eq) (gf.trans (Fr.set (by omega) (by omega)))
  exact loop 32 0 w (by omega) (by rw [cpF_0]; exact hb) Fr.rfl'

set_option maxHeartbeats 4000000 in
set_option maxRecDepth 20000 in
theorem c_isAt {l : Launch} {g : cx_G} {w : wd_T} {a0 am aw as9 : Nat} {n : Int32} {sta : Nat → Int32} {tb ab nb fr : Nat} {fb : Nat → Int32} (h0 : w 110 = some (a0, ob 3 [.ref am, .ref aw, .ref as9, .int n])) (h3 : w 113 = some (as9, aI g 8 sta)) (hb : w tb = some (ab, aB g nb fb)) (hfr : fr + 32 ≤ nb) (hnb : nb < 65536) : Mt l g yX3_isAt cX3_isAt 5 (some .boolean) 1 0 0 w [.ref a0, .ref ab, .int (nI fr)] (fun v w' => w = w' ∧ ((v = some (.int (nI 1)) ∧ ∀ k, k < 32 → fb (fr + k) = dig9 sta k) ∨ (v = some (.int (nI 0)) ∧ ∃ k, k < 32 ∧ fb (fr + k) ≠ dig9 sta k))) := by
  refine mt_of RX3 "isAt" rfl rfl (by decide) (Nat.le_of_ble_eq_true rfl) [(0, .ref a0), (1, .ref ab), (2, .int (nI fr))] rfl ?_
  intro k hkl C hin
  subst hkl
  refine r_iconst C (nI 0) dX3_isAt_0 (by decide) rfl ?_
  refine r_istore_n (lv' := [(3, .int (nI 0)), (0, .ref a0), (1, .ref ab), (2, .int (nI fr))]) C dX3_isAt_1 (by decide) rfl rfl ?_
  have loop : ∀ (r i : Nat)  , i + r = 32 → (∀ k, k < i → fb (fr + k) = dig9 sta k) → V g k 5 w 0 0 (kQ g k (fun v w' => w = w' ∧ ((v = some (.int (nI 1)) ∧ ∀ k, k < 32 → fb (fr + k) = dig9 sta k) ∨ (v = some (.int (nI 0)) ∧ ∃ k, k < 32 ∧ fb (fr + k) ≠ dig9 sta k))) 0 0) 2 [(3, .int (nI i)), (0, .ref a0), (1, .ref ab), (2, .int (nI fr))] [] := by
    intro r
    induction r with
    | zero =>
      intro i   hi gq
      refine r_iload_n C 0 dX3_isAt_2 rfl rfl ?_
      refine r_bipush C (nI 32) dX3_isAt_3 (by decide) rfl ?_
      refine r_icmp_ge_t (tgt := 45) C dX3_isAt_5 (by decide) ((nI_leI (a := 32) (b := i) (by omega) (by omega)).mpr (by omega)) ?_
      refine r_iconst C (nI 1) dX3_isAt_45 (by decide) rfl ?_
      obtain rfl : i = 32 := by omega
      exact r_zret C rfl rfl (by decide) (by decide) dX3_isAt_46 ⟨rfl, Or.inl ⟨rfl, gq⟩⟩
    | succ r ih =>
      intro i   hi gq
      refine r_iload_n C 0 dX3_isAt_2 rfl rfl ?_
      refine r_bipush C (nI 32) dX3_isAt_3 (by decide) rfl ?_
      refine r_icmp_ge_f (tgt := 45) C dX3_isAt_5 (by decide) rfl (fun z => absurd ((nI_leI (a := 32) (b := i) (by omega) (by omega)).mp z) (by omega)) ?_
      refine r_iload_n C 3 dX3_isAt_8 rfl rfl ?_
      refine r_iload_n C 0 dX3_isAt_9 rfl rfl ?_
      refine r_iadd C dX3_isAt_10 rfl ?_
      refine r_ti (show ((nI fr) + (nI i) : Int32) = nI (fr + i) from nI_add fr i) ?_
      refine r_istore (lv' := [(4, .int (nI (fr + i))), (3, .int (nI i)), (0, .ref a0), (1, .ref ab), (2, .int (nI fr))]) C dX3_isAt_11 (by decide) rfl rfl ?_
      refine r_iload C 0 dX3_isAt_13 rfl rfl ?_
      refine r_if_lt_f (tgt := 37) C dX3_isAt_15 (by decide) rfl (nI_pos (by omega)) ?_
      refine r_iload C 0 dX3_isAt_18 rfl rfl ?_
      refine r_aload_n C 3 dX3_isAt_20 rfl rfl ?_
      refine r_blen (t := tb) C hb dX3_isAt_21 rfl ?_
      refine r_icmp_ge_f (tgt := 37) C dX3_isAt_22 (by decide) rfl (fun z => absurd ((nI_leI (a := nb) (b := (fr + i)) (by omega) (by omega)).mp z) (by omega)) ?_
      refine r_aload_n C 3 dX3_isAt_25 rfl rfl ?_
      refine r_iload C 0 dX3_isAt_26 rfl rfl ?_
      refine r_bald (t := tb) C hb (fr + i) rfl (by omega) (by omega) dX3_isAt_28 rfl ?_
      refine r_aload_n C 2 dX3_isAt_29 rfl rfl ?_
      refine r_iload_n C 1 dX3_isAt_30 rfl rfl ?_
      refine r_callV (t := 110) (As := [.int (nI i)]) (st := [.int (fb (fr + i))]) C koX3 h0 (c_sumByte h0 h3 (by omega)) q398 q395 q397 qp9 q7 rfl ⟨by decide, by decide⟩ (show (parseMethodDescriptor yX3_sumByte.desc).map (fun d => d.parameters.length) = some 1 by decide +kernel) (by decide) (by decide) (by decide) (by decide) (Nat.le_of_ble_eq_true rfl) rfl dX3_isAt_31 rfl ?_
      rintro v9 w2 ⟨rfl, rfl⟩
      show V g k 5 w 0 0 (kQ g k (fun v w' => w = w' ∧ ((v = some (.int (nI 1)) ∧ ∀ k, k < 32 → fb (fr + k) = dig9 sta k) ∨ (v = some (.int (nI 0)) ∧ ∃ k, k < 32 ∧ fb (fr + k) ≠ dig9 sta k))) 0 0) 34 [(4, .int (nI (fr + i))), (3, .int (nI i)), (0, .ref a0), (1, .ref ab), (2, .int (nI fr))] [.int (dig9 sta i), .int (fb (fr + i))]
      refine r_icmp_eq (tgt := 39) C dX3_isAt_34 (by decide) rfl (fun hc3 => ?_) (fun hc3 => ?_)
      · refine r_iinc (v := nI (i + 1)) (lv' := [(3, .int (nI (i + 1))), (4, .int (nI (fr + i))), (0, .ref a0), (1, .ref ab), (2, .int (nI fr))]) C 1 dX3_isAt_39 rfl (nI_1 i) (by decide) rfl rfl ?_
        refine r_goto (tgt := 2) C dX3_isAt_42 (by decide) ?_
        refine r_sub (lv' := [(3, .int (nI (i + 1))), (0, .ref a0), (1, .ref ab), (2, .int (nI fr))]) [0, 2, 3, 4] rfl ?_
        exact ih (i + 1) (by omega) (lt_s gq hc3)
      · refine r_iconst C (nI 0) dX3_isAt_37 (by decide) rfl ?_
        exact r_zret C rfl rfl (by decide) (by decide) dX3_isAt_38 ⟨rfl, Or.inr ⟨rfl, i, by omega, hc3⟩⟩
  exact loop 32 0 (by omega) (fun k hk => absurd hk (Nat.not_lt_zero k))

set_option maxHeartbeats 4000000 in
set_option maxRecDepth 20000 in
theorem c_SumInit {l : Launch} {g : cx_G} {w : wd_T} {a0 : Nat} (h0 : w 110 = some (a0, ob 3 [.null, .null, .null, .int 0])) : Mt l g yX3_init cX3_init 1 none 1 3 200 w [.ref a0] (fun v w' => v = none ∧ (∃ am aw as9, w' 110 = some (a0, ob 3 [.ref am, .ref aw, .ref as9, .int (nI 0)]) ∧ w' 111 = some (am, aB g 128 (fun _ => 0)) ∧ w' 112 = some (aw, aI g 64 (fun _ => 0)) ∧ w' 113 = some (as9, aI g 8 (fun _ => 0))) ∧ Fr w w' 110 114) := by
  refine mt_of RX3 "<init>" rfl rfl (by decide) (Nat.le_of_ble_eq_true rfl) [(0, .ref a0)] rfl ?_
  intro k hkl C hin
  subst hkl
  refine r_aload_n C 0 dX3_init_0 rfl rfl ?_
  refine r_objI C q86 q33 q34 (by decide) (Nat.le_of_ble_eq_true rfl) dX3_init_1 rfl ?_
  refine r_aload_n C 0 dX3_init_4 rfl rfl ?_
  refine r_sipush C (nI 128) dX3_init_5 (by decide) rfl ?_
  refine r_newb C 128 rfl (by decide) q101 111 (by decide) (by decide) dX3_init_8 rfl (fun am => ?_)
  refine r_putF (t := 110) (w' := wd_set (wd_set w 111 am (aB g 128 (fun _ => 0))) 110 a0 (ob 3 [.ref am, .null, .null, .int 0])) C koX3 ((wd_ne (by decide)).trans h0) 0 (by decide) q87 rfl rfl hin rfl rfl rfl (Nat.le_of_ble_eq_true rfl) dX3_init_10 rfl rfl ?_
  refine r_aload_n C 0 dX3_init_13 rfl rfl ?_
  refine r_bipush C (nI 64) dX3_init_14 (by decide) rfl ?_
  refine r_newi C 64 rfl (by decide) q100 112 (by decide) (by decide) dX3_init_16 rfl (fun aw => ?_)
  refine r_putF (t := 110) (w' := wd_set (wd_set (wd_set w 111 am (aB g 128 (fun _ => 0))) 112 aw (aI g 64 (fun _ => 0))) 110 a0 (ob 3 [.ref am, .ref aw, .null, .int 0])) C koX3 ((wd_ne (by decide)).trans wd_eq) 1 (by decide) q88 rfl rfl hin rfl rfl rfl (Nat.le_of_ble_eq_true rfl) dX3_init_18 rfl (wd_pp wd_ss (by decide)) ?_
  refine r_aload_n C 0 dX3_init_21 rfl rfl ?_
  refine r_bipush C (nI 8) dX3_init_22 (by decide) rfl ?_
  refine r_newi C 8 rfl (by decide) q100 113 (by decide) (by decide) dX3_init_24 rfl (fun as9 => ?_)
  refine r_putF (t := 110) (w' := wd_set (wd_set (wd_set (wd_set w 111 am (aB g 128 (fun _ => 0))) 112 aw (aI g 64 (fun _ => 0))) 113 as9 (aI g 8 (fun _ => 0))) 110 a0 (ob 3 [.ref am, .ref aw, .ref as9, .int 0])) C koX3 ((wd_ne (by decide)).trans wd_eq) 2 (by decide) q89 rfl rfl hin rfl rfl rfl (Nat.le_of_ble_eq_true rfl) dX3_init_26 rfl (wd_pp wd_ss (by decide)) ?_
  refine r_aload_n C 0 dX3_init_29 rfl rfl ?_
  refine r_iconst C (nI 0) dX3_init_30 (by decide) rfl ?_
  refine r_put (t := 110) (w' := wd_set (wd_set (wd_set (wd_set w 111 am (aB g 128 (fun _ => 0))) 112 aw (aI g 64 (fun _ => 0))) 113 as9 (aI g 8 (fun _ => 0))) 110 a0 (ob 3 [.ref am, .ref aw, .ref as9, .int (nI 0)])) C koX3 wd_eq 3 (by decide) q90 rfl rfl rfl rfl (Nat.le_of_ble_eq_true rfl) dX3_init_31 rfl wd_ss ?_
  refine r_vret C rfl (by decide) (by decide) dX3_init_34 ⟨rfl, ⟨_, _, _, wd_eq, ((wd_ne (by decide)).trans ((wd_ne (by decide)).trans ((wd_ne (by decide)).trans wd_eq))), ((wd_ne (by decide)).trans ((wd_ne (by decide)).trans wd_eq)), ((wd_ne (by decide)).trans wd_eq)⟩, fun t ht => ?_⟩
  simp only [wd_set]
  rw [if_neg (by omega), if_neg (by omega), if_neg (by omega), if_neg (by omega)]
