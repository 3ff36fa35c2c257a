/-! Sum: start, add, addZeros, addByte; turn and its like -/
set_option maxHeartbeats 4000000 in
set_option maxRecDepth 20000 in
theorem c_start {l : Launch} {g : cx_G} {w : wd_T} {a0 am aw as9 : Nat} {n : Int32} (h0 : w 110 = some (a0, ob 3 [.ref am, .ref aw, .ref as9, .int n])) : Mt l g yX3_start cX3_start 1 none 0 0 0 w [.ref a0] (fun v w' => v = none ∧ w' 110 = some (a0, ob 3 [.ref am, .ref aw, .ref as9, .int (nI 0)]) ∧ Fr w w' 110 111) := by
  refine mt_of RX3 "start" rfl rfl (by decide) (Nat.le_of_ble_eq_true rfl) [(0, .ref a0)] rfl ?_
  intro k hkl C hin
  subst hkl
  refine r_aload_n C 0 dX3_start_0 rfl rfl ?_
  refine r_iconst C (nI 0) dX3_start_1 (by decide) rfl ?_
  refine r_put (t := 110) (w' := wd_set w 110 a0 (ob 3 [.ref am, .ref aw, .ref as9, .int (nI 0)])) C koX3 h0 3 (by decide) q90 rfl rfl rfl rfl (Nat.le_of_ble_eq_true rfl) dX3_start_2 rfl rfl ?_
  exact r_vret C rfl (by decide) (by decide) dX3_start_5 ⟨rfl, wd_eq, Fr.set (by decide) (by decide)⟩

set_option maxHeartbeats 4000000 in
set_option maxRecDepth 20000 in
theorem c_addByte {l : Launch} {g : cx_G} {w : wd_T} {a0 am aw as9 : Nat} {n : Nat} {msg : Nat → Int32} {x : Int32} (h0 : w 110 = some (a0, ob 3 [.ref am, .ref aw, .ref as9, .int (nI n)])) (h1 : w 111 = some (am, aB g 128 msg)) (hn : n < 128) : Mt l g yX3_addByte cX3_addByte 2 none 0 0 0 w [.ref a0, .int x] (fun v w' => v = none ∧ w' 110 = some (a0, ob 3 [.ref am, .ref aw, .ref as9, .int (nI (n + 1))]) ∧ w' 111 = some (am, aB g 128 (upd msg n x.toInt8.toInt32)) ∧ Fr w w' 110 112) := by
  refine mt_of RX3 "addByte" rfl rfl (by decide) (Nat.le_of_ble_eq_true rfl) [(0, .ref a0), (1, .int x)] rfl ?_
  intro k hkl C hin
  subst hkl
  refine r_aload_n C 0 dX3_addByte_0 rfl rfl ?_
  refine r_get (t := 110) C koX3 h0 3 (by decide) q90 rfl rfl dX3_addByte_1 rfl ?_
  refine r_aload_n C 0 dX3_addByte_4 rfl rfl ?_
  refine r_get (t := 110) C koX3 h0 0 (by decide) q87 rfl rfl dX3_addByte_5 rfl ?_
  refine r_blen (t := 111) C h1 dX3_addByte_8 rfl ?_
  refine r_icmp_ge_f (tgt := 33) C dX3_addByte_9 (by decide) rfl (fun z => absurd ((nI_leI (a := 128) (b := n) (by omega) (by omega)).mp z) (by omega)) ?_
  refine r_aload_n C 0 dX3_addByte_12 rfl rfl ?_
  refine r_get (t := 110) C koX3 h0 0 (by decide) q87 rfl rfl dX3_addByte_13 rfl ?_
  refine r_aload_n C 0 dX3_addByte_16 rfl rfl ?_
  refine r_get (t := 110) C koX3 h0 3 (by decide) q90 rfl rfl dX3_addByte_17 rfl ?_
  refine r_iload_n C 1 dX3_addByte_20 rfl rfl ?_
  refine r_i2b C dX3_addByte_21 rfl ?_
  refine r_bast8 (t := 111) (w' := wd_set w 111 am (aB g 128 (upd msg n x.toInt8.toInt32))) C h1 n rfl (by omega) (by decide) dX3_addByte_22 rfl rfl ?_
  refine r_aload_n C 0 dX3_addByte_23 rfl rfl ?_
  refine r_dup C dX3_addByte_24 rfl rfl ?_
  refine r_get (t := 110) C koX3 ((wd_ne (by decide)).trans h0) 3 (by decide) q90 rfl rfl dX3_addByte_25 rfl ?_
  refine r_iconst C (nI 1) dX3_addByte_28 (by decide) rfl ?_
  refine r_iadd C dX3_addByte_29 rfl ?_
  refine r_ti (show ((nI n) + (nI 1) : Int32) = nI (n + 1) from nI_add n 1) ?_
  refine r_put (t := 110) (w' := wd_set (wd_set w 111 am (aB g 128 (upd msg n x.toInt8.toInt32))) 110 a0 (ob 3 [.ref am, .ref aw, .ref as9, .int (nI (n + 1))])) C koX3 ((wd_ne (by decide)).trans h0) 3 (by decide) q90 rfl rfl rfl rfl (Nat.le_of_ble_eq_true rfl) dX3_addByte_30 rfl rfl ?_
  exact r_vret C rfl (by decide) (by decide) dX3_addByte_33 ⟨rfl, wd_eq, (wd_ne (by decide)).trans wd_eq, (Fr.set (by decide) (by decide)).trans (Fr.set (by decide) (by decide))⟩

/-- bytes n .. n + c - 1 of a message are a row's -/
def adF (msg : Nat → Int32) (n c : Nat) (f : Nat → Int32) : Nat → Int32 := fun j => if n ≤ j ∧ j < n + c then (f (j - n)).toInt8.toInt32 else msg j
theorem adF_0 {msg f : Nat → Int32} {n : Nat} : adF msg n 0 f = msg := by
  funext j
  exact if_neg (by omega)
theorem adF_s {msg f : Nat → Int32} {n c : Nat} {x : Int32} (hx : x.toInt8.toInt32 = (f c).toInt8.toInt32) : upd (adF msg n c f) (n + c) x.toInt8.toInt32 = adF msg n (c + 1) f := by
  funext j
  unfold upd adF
  by_cases h : j = n + c
  · subst h
    rw [if_pos rfl, if_pos (by omega), hx, Nat.add_sub_cancel_left]
  · rw [if_neg h]
    by_cases h2 : n ≤ j ∧ j < n + c
    · rw [if_pos h2, if_pos (by omega)]
    · rw [if_neg h2, if_neg (by omega)]

set_option maxHeartbeats 4000000 in
set_option maxRecDepth 20000 in
theorem c_addZeros {l : Launch} {g : cx_G} {w : wd_T} {a0 am aw as9 : Nat} {n : Nat} {msg : Nat → Int32} {c : Nat} (h0 : w 110 = some (a0, ob 3 [.ref am, .ref aw, .ref as9, .int (nI n)])) (h1 : w 111 = some (am, aB g 128 msg)) (hn : n + c ≤ 128) : Mt l g yX3_addZeros cX3_addZeros 3 none 1 0 0 w [.ref a0, .int (nI c)] (fun v w' => v = none ∧ w' 110 = some (a0, ob 3 [.ref am, .ref aw, .ref as9, .int (nI (n + c))]) ∧ w' 111 = some (am, aB g 128 (adF msg n c (fun _ => 0))) ∧ Fr w w' 110 112) := by
  refine mt_of RX3 "addZeros" rfl rfl (by decide) (Nat.le_of_ble_eq_true rfl) [(0, .ref a0), (1, .int (nI c))] rfl ?_
  intro k hkl C hin
  subst hkl
  refine r_iconst C (nI 0) dX3_addZeros_0 (by decide) rfl ?_
  refine r_istore_n (lv' := [(2, .int (nI 0)), (0, .ref a0), (1, .int (nI c))]) C dX3_addZeros_1 (by decide) rfl rfl ?_
  have loop : ∀ (r i : Nat)  (w1 : wd_T), i + r = c → (w1 110 = some (a0, ob 3 [.ref am, .ref aw, .ref as9, .int (nI (n + i))])) → (w1 111 = some (am, aB g 128 (adF msg n i (fun _ => 0)))) → (Fr w w1 110 112) → V g k 3 w1 0 0 (kQ g k (fun v w' => v = none ∧ w' 110 = some (a0, ob 3 [.ref am, .ref aw, .ref as9, .int (nI (n + c))]) ∧ w' 111 = some (am, aB g 128 (adF msg n c (fun _ => 0))) ∧ Fr w w' 110 112) 0 0) 2 [(2, .int (nI i)), (0, .ref a0), (1, .int (nI c))] [] := by
    intro r
    induction r with
    | zero =>
      intro i  w1 hi g0 g1 gf
      refine r_iload_n C 0 dX3_addZeros_2 rfl rfl ?_
      refine r_iload_n C 2 dX3_addZeros_3 rfl rfl ?_
      refine r_icmp_ge_t (tgt := 18) C dX3_addZeros_4 (by decide) ((nI_leI (a := c) (b := i) (by omega) (by omega)).mpr (by omega)) ?_
      obtain rfl : i = c := by omega
      exact r_vret C rfl (by decide) (by decide) dX3_addZeros_18 ⟨rfl, g0, g1, gf⟩
    | succ r ih =>
      intro i  w1 hi g0 g1 gf
      refine r_iload_n C 0 dX3_addZeros_2 rfl rfl ?_
      refine r_iload_n C 2 dX3_addZeros_3 rfl rfl ?_
      refine r_icmp_ge_f (tgt := 18) C dX3_addZeros_4 (by decide) rfl (fun z => absurd ((nI_leI (a := c) (b := i) (by omega) (by omega)).mp z) (by omega)) ?_
      refine r_aload_n C 1 dX3_addZeros_7 rfl rfl ?_
      refine r_iconst C (nI 0) dX3_addZeros_8 (by decide) rfl ?_
      refine r_callV (t := 110) (As := [.int (nI 0)]) (st := []) C koX3 g0 (c_addByte g0 g1 (by omega)) q359 q356 q358 qp6 q7 rfl ⟨by decide, by decide⟩ (show (parseMethodDescriptor yX3_addByte.desc).map (fun d => d.parameters.length) = some 1 by decide +kernel) (by decide) (by decide) (by decide) (by decide) (Nat.le_of_ble_eq_true rfl) rfl dX3_addZeros_9 rfl ?_
      rintro v9 w3 ⟨rfl, e0, e1, ef2⟩
      show V g k 3 w3 0 0 (kQ g k (fun v w' => v = none ∧ w' 110 = some (a0, ob 3 [.ref am, .ref aw, .ref as9, .int (nI (n + c))]) ∧ w' 111 = some (am, aB g 128 (adF msg n c (fun _ => 0))) ∧ Fr w w' 110 112) 0 0) 12 [(2, .int (nI i)), (0, .ref a0), (1, .int (nI c))] []
      refine r_iinc (v := nI (i + 1)) (lv' := [(2, .int (nI (i + 1))), (0, .ref a0), (1, .int (nI c))]) C 0 dX3_addZeros_12 rfl (nI_1 i) (by decide) rfl rfl ?_
      refine r_goto (tgt := 2) C dX3_addZeros_15 (by decide) ?_
      exact ih (i + 1) _ (by omega) e0 (by rw [← adF_s (f := (fun _ => 0)) (x := nI 0) rfl]; exact e1) (gf.trans ef2)
  exact loop c 0 w (by omega) h0 (by rw [adF_0]; exact h1) Fr.rfl'

set_option maxHeartbeats 4000000 in
set_option maxRecDepth 20000 in
theorem c_add {l : Launch} {g : cx_G} {w : wd_T} {a0 am aw as9 : Nat} {n : Nat} {msg : Nat → Int32} {c tb ab nb fr : Nat} {fb : Nat → Int32} (h0 : w 110 = some (a0, ob 3 [.ref am, .ref aw, .ref as9, .int (nI n)])) (h1 : w 111 = some (am, aB g 128 msg)) (hb : w tb = some (ab, aB g nb fb)) (htb : tb < 110 ∨ 112 ≤ tb) (hn : n + c ≤ 128) (hfr : fr + c ≤ nb) (hnb : nb < 65536) : Mt l g yX3_add cX3_add 6 none 1 0 0 w [.ref a0, .ref ab, .int (nI fr), .int (nI c)] (fun v w' => v = none ∧ w' 110 = some (a0, ob 3 [.ref am, .ref aw, .ref as9, .int (nI (n + c))]) ∧ w' 111 = some (am, aB g 128 (adF msg n c (fun j => fb (fr + j)))) ∧ Fr w w' 110 112) := by
  refine mt_of RX3 "add" rfl rfl (by decide) (Nat.le_of_ble_eq_true rfl) [(0, .ref a0), (1, .ref ab), (2, .int (nI fr)), (3, .int (nI c))] rfl ?_
  intro k hkl C hin
  subst hkl
  refine r_iconst C (nI 0) dX3_add_0 (by decide) rfl ?_
  refine r_istore (lv' := [(4, .int (nI 0)), (0, .ref a0), (1, .ref ab), (2, .int (nI fr)), (3, .int (nI c))]) C dX3_add_1 (by decide) rfl rfl ?_
  have loop : ∀ (r i : Nat)  (w1 : wd_T), i + r = c → (w1 110 = some (a0, ob 3 [.ref am, .ref aw, .ref as9, .int (nI (n + i))])) → (w1 111 = some (am, aB g 128 (adF msg n i (fun j => fb (fr + j))))) → (Fr w w1 110 112) → V g k 6 w1 0 0 (kQ g k (fun v w' => v = none ∧ w' 110 = some (a0, ob 3 [.ref am, .ref aw, .ref as9, .int (nI (n + c))]) ∧ w' 111 = some (am, aB g 128 (adF msg n c (fun j => fb (fr + j)))) ∧ Fr w w' 110 112) 0 0) 3 [(4, .int (nI i)), (0, .ref a0), (1, .ref ab), (2, .int (nI fr)), (3, .int (nI c))] [] := by
    intro r
    induction r with
    | zero =>
      intro i  w1 hi g0 g1 gf
      refine r_iload C 0 dX3_add_3 rfl rfl ?_
      refine r_iload_n C 4 dX3_add_5 rfl rfl ?_
      refine r_icmp_ge_t (tgt := 41) C dX3_add_6 (by decide) ((nI_leI (a := c) (b := i) (by omega) (by omega)).mpr (by omega)) ?_
      obtain rfl : i = c := by omega
      exact r_vret C rfl (by decide) (by decide) dX3_add_41 ⟨rfl, g0, g1, gf⟩
    | succ r ih =>
      intro i  w1 hi g0 g1 gf
      have gb : w1 tb = some (ab, aB g nb fb) := (gf tb htb).trans hb
      refine r_iload C 0 dX3_add_3 rfl rfl ?_
      refine r_iload_n C 4 dX3_add_5 rfl rfl ?_
      refine r_icmp_ge_f (tgt := 41) C dX3_add_6 (by decide) rfl (fun z => absurd ((nI_leI (a := c) (b := i) (by omega) (by omega)).mp z) (by omega)) ?_
      refine r_iload_n C 3 dX3_add_9 rfl rfl ?_
      refine r_iload C 0 dX3_add_10 rfl rfl ?_
      refine r_iadd C dX3_add_12 rfl ?_
      refine r_ti (show ((nI fr) + (nI i) : Int32) = nI (fr + i) from nI_add fr i) ?_
      refine r_istore (lv' := [(5, .int (nI (fr + i))), (4, .int (nI i)), (0, .ref a0), (1, .ref ab), (2, .int (nI fr)), (3, .int (nI c))]) C dX3_add_13 (by decide) rfl rfl ?_
      refine r_iload C 0 dX3_add_15 rfl rfl ?_
      refine r_if_lt_f (tgt := 35) C dX3_add_17 (by decide) rfl (nI_pos (by omega)) ?_
      refine r_iload C 0 dX3_add_20 rfl rfl ?_
      refine r_aload_n C 3 dX3_add_22 rfl rfl ?_
      refine r_blen (t := tb) C gb dX3_add_23 rfl ?_
      refine r_icmp_ge_f (tgt := 35) C dX3_add_24 (by decide) rfl (fun z => absurd ((nI_leI (a := nb) (b := (fr + i)) (by omega) (by omega)).mp z) (by omega)) ?_
      refine r_aload_n C 2 dX3_add_27 rfl rfl ?_
      refine r_aload_n C 3 dX3_add_28 rfl rfl ?_
      refine r_iload C 0 dX3_add_29 rfl rfl ?_
      refine r_bald (t := tb) C gb (fr + i) rfl (by omega) (by omega) dX3_add_31 rfl ?_
      refine r_callV (t := 110) (As := [.int (fb (fr + i))]) (st := []) C koX3 g0 (c_addByte g0 g1 (by omega)) q359 q356 q358 qp6 q7 rfl ⟨by decide, by decide⟩ (show (parseMethodDescriptor yX3_addByte.desc).map (fun d => d.parameters.length) = some 1 by decide +kernel) (by decide) (by decide) (by decide) (by decide) (Nat.le_of_ble_eq_true rfl) rfl dX3_add_32 rfl ?_
      rintro v9 w3 ⟨rfl, e0, e1, ef2⟩
      show V g k 6 w3 0 0 (kQ g k (fun v w' => v = none ∧ w' 110 = some (a0, ob 3 [.ref am, .ref aw, .ref as9, .int (nI (n + c))]) ∧ w' 111 = some (am, aB g 128 (adF msg n c (fun j => fb (fr + j)))) ∧ Fr w w' 110 112) 0 0) 35 [(5, .int (nI (fr + i))), (4, .int (nI i)), (0, .ref a0), (1, .ref ab), (2, .int (nI fr)), (3, .int (nI c))] []
      refine r_iinc (v := nI (i + 1)) (lv' := [(4, .int (nI (i + 1))), (5, .int (nI (fr + i))), (0, .ref a0), (1, .ref ab), (2, .int (nI fr)), (3, .int (nI c))]) C 1 dX3_add_35 rfl (nI_1 i) (by decide) rfl rfl ?_
      refine r_goto (tgt := 3) C dX3_add_38 (by decide) ?_
      refine r_sub (lv' := [(4, .int (nI (i + 1))), (0, .ref a0), (1, .ref ab), (2, .int (nI fr)), (3, .int (nI c))]) [0, 2, 3, 4, 5] rfl ?_
      exact ih (i + 1) _ (by omega) e0 (by rw [← adF_s (f := (fun j => fb (fr + j))) (x := fb (fr + i)) rfl]; exact e1) (gf.trans ef2)
  exact loop c 0 w (by omega) h0 (by rw [adF_0]; exact h1) Fr.rfl'

set_option maxHeartbeats 4000000 in
set_option maxRecDepth 20000 in
theorem c_turn {l : Launch} {g : cx_G} {w : wd_T} {x p9 : Int32} : Mt l g yX3_turn cX3_turn 2 (some .int) 0 0 0 w [.int x, .int p9] (fun v w' => v = some (.int (rot9 x p9)) ∧ w = w') := by
  refine mt_of RX3 "turn" rfl rfl (by decide) (Nat.le_of_ble_eq_true rfl) [(0, .int x), (1, .int p9)] rfl ?_
  intro k hkl C hin
  subst hkl
  refine r_iload_n C 0 dX3_turn_0 rfl rfl ?_
  refine r_iload_n C 1 dX3_turn_1 rfl rfl ?_
  refine r_iushr C dX3_turn_2 rfl ?_
  refine r_iload_n C 0 dX3_turn_3 rfl rfl ?_
  refine r_bipush C (nI 32) dX3_turn_4 (by decide) rfl ?_
  refine r_iload_n C 1 dX3_turn_6 rfl rfl ?_
  refine r_isub C dX3_turn_7 rfl ?_
  refine r_ishl C dX3_turn_8 rfl ?_
  refine r_ior C dX3_turn_9 rfl ?_
  exact r_iret C rfl (by decide) (by decide) dX3_turn_10 ⟨rfl, rfl⟩

set_option maxHeartbeats 4000000 in
set_option maxRecDepth 20000 in
theorem c_earlyWord {l : Launch} {g : cx_G} {w : wd_T} {x : Int32} : Mt l g yX3_earlyWord cX3_earlyWord 1 (some .int) 1 0 0 w [.int x] (fun v w' => v = some (.int (ear9 x)) ∧ w = w') := by
  refine mt_of RX3 "earlyWord" rfl rfl (by decide) (Nat.le_of_ble_eq_true rfl) [(0, .int x)] rfl ?_
  intro k hkl C hin
  subst hkl
  refine r_iload_n C 0 dX3_earlyWord_0 rfl rfl ?_
  refine r_bipush C (nI 7) dX3_earlyWord_1 (by decide) rfl ?_
  refine r_callS (As := [.int x, .int (nI 7)]) (st := []) C (c_turn) q381 q379 q380 q7 ⟨by decide, by decide⟩ (show (parseMethodDescriptor yX3_turn.desc).map (fun d => d.parameters.length) = some 2 by decide +kernel) (by decide) (by decide) (by decide) (by decide) (Nat.le_of_ble_eq_true rfl) rfl dX3_earlyWord_3 rfl ?_
  rintro v9 w1 ⟨rfl, rfl⟩
  show V g k 1 w 0 0 (kQ g k (fun v w' => v = some (.int (ear9 x)) ∧ w = w') 0 0) 6 [(0, .int x)] [.int (rot9 x (nI 7))]
  refine r_iload_n C 0 dX3_earlyWord_6 rfl rfl ?_
  refine r_bipush C (nI 18) dX3_earlyWord_7 (by decide) rfl ?_
  refine r_callS (As := [.int x, .int (nI 18)]) (st := [.int (rot9 x (nI 7))]) C (c_turn) q381 q379 q380 q7 ⟨by decide, by decide⟩ (show (parseMethodDescriptor yX3_turn.desc).map (fun d => d.parameters.length) = some 2 by decide +kernel) (by decide) (by decide) (by decide) (by decide) (Nat.le_of_ble_eq_true rfl) rfl dX3_earlyWord_9 rfl ?_
  rintro v9 w2 ⟨rfl, rfl⟩
  show V g k 1 w 0 0 (kQ g k (fun v w' => v = some (.int (ear9 x)) ∧ w = w') 0 0) 12 [(0, .int x)] [.int (rot9 x (nI 18)), .int (rot9 x (nI 7))]
  refine r_ixor C dX3_earlyWord_12 rfl ?_
  refine r_iload_n C 0 dX3_earlyWord_13 rfl rfl ?_
  refine r_iconst C (nI 3) dX3_earlyWord_14 (by decide) rfl ?_
  refine r_iushr C dX3_earlyWord_15 rfl ?_
  refine r_ixor C dX3_earlyWord_16 rfl ?_
  exact r_iret C rfl (by decide) (by decide) dX3_earlyWord_17 ⟨rfl, rfl⟩

set_option maxHeartbeats 4000000 in
set_option maxRecDepth 20000 in
theorem c_lateWord {l : Launch} {g : cx_G} {w : wd_T} {x : Int32} : Mt l g yX3_lateWord cX3_lateWord 1 (some .int) 1 0 0 w [.int x] (fun v w' => v = some (.int (lat9 x)) ∧ w = w') := by
  refine mt_of RX3 "lateWord" rfl rfl (by decide) (Nat.le_of_ble_eq_true rfl) [(0, .int x)] rfl ?_
  intro k hkl C hin
  subst hkl
  refine r_iload_n C 0 dX3_lateWord_0 rfl rfl ?_
  refine r_bipush C (nI 17) dX3_lateWord_1 (by decide) rfl ?_
  refine r_callS (As := [.int x, .int (nI 17)]) (st := []) C (c_turn) q381 q379 q380 q7 ⟨by decide, by decide⟩ (show (parseMethodDescriptor yX3_turn.desc).map (fun d => d.parameters.length) = some 2 by decide +kernel) (by decide) (by decide) (by decide) (by decide) (Nat.le_of_ble_eq_true rfl) rfl dX3_lateWord_3 rfl ?_
  rintro v9 w1 ⟨rfl, rfl⟩
  show V g k 1 w 0 0 (kQ g k (fun v w' => v = some (.int (lat9 x)) ∧ w = w') 0 0) 6 [(0, .int x)] [.int (rot9 x (nI 17))]
  refine r_iload_n C 0 dX3_lateWord_6 rfl rfl ?_
  refine r_bipush C (nI 19) dX3_lateWord_7 (by decide) rfl ?_
  refine r_callS (As := [.int x, .int (nI 19)]) (st := [.int (rot9 x (nI 17))]) C (c_turn) q381 q379 q380 q7 ⟨by decide, by decide⟩ (show (parseMethodDescriptor yX3_turn.desc).map (fun d => d.parameters.length) = some 2 by decide +kernel) (by decide) (by decide) (by decide) (by decide) (Nat.le_of_ble_eq_true rfl) rfl dX3_lateWord_9 rfl ?_
  rintro v9 w2 ⟨rfl, rfl⟩
  show V g k 1 w 0 0 (kQ g k (fun v w' => v = some (.int (lat9 x)) ∧ w = w') 0 0) 12 [(0, .int x)] [.int (rot9 x (nI 19)), .int (rot9 x (nI 17))]
  refine r_ixor C dX3_lateWord_12 rfl ?_
  refine r_iload_n C 0 dX3_lateWord_13 rfl rfl ?_
  refine r_bipush C (nI 10) dX3_lateWord_14 (by decide) rfl ?_
  refine r_iushr C dX3_lateWord_16 rfl ?_
  refine r_ixor C dX3_lateWord_17 rfl ?_
  exact r_iret C rfl (by decide) (by decide) dX3_lateWord_18 ⟨rfl, rfl⟩

set_option maxHeartbeats 4000000 in
set_option maxRecDepth 20000 in
theorem c_sumByte {l : Launch} {g : cx_G} {w : wd_T} {a0 am aw as9 : Nat} {n : Int32} {sta : Nat → Int32} {i : Nat} (h0 : w 110 = some (a0, ob 3 [.ref am, .ref aw, .ref as9, .int n])) (h3 : w 113 = some (as9, aI g 8 sta)) (hi : i < 32) : Mt l g yX3_sumByte cX3_sumByte 2 (some .byte) 0 0 0 w [.ref a0, .int (nI i)] (fun v w' => v = some (.int (dig9 sta i)) ∧ w = w') := by
  refine mt_of RX3 "sumByte" rfl rfl (by decide) (Nat.le_of_ble_eq_true rfl) [(0, .ref a0), (1, .int (nI i))] rfl ?_
  intro k hkl C hin
  subst hkl
  refine r_aload_n C 0 dX3_sumByte_0 rfl rfl ?_
  refine r_get (t := 110) C koX3 h0 2 (by decide) q89 rfl rfl dX3_sumByte_1 rfl ?_
  refine r_iload_n C 1 dX3_sumByte_4 rfl rfl ?_
  refine r_iconst C (nI 4) dX3_sumByte_5 (by decide) rfl ?_
  refine r_idiv C dX3_sumByte_6 (by decide) rfl ?_
  refine r_ti (show ((nI i) / (nI 4) : Int32) = nI (i / 4) from pk_div (by omega) (by omega) (by omega)) ?_
  refine r_iald (t := 113) C h3 (i / 4) rfl (by omega) (by decide) dX3_sumByte_7 rfl ?_
  refine r_bipush C (nI 24) dX3_sumByte_8 (by decide) rfl ?_
  refine r_bipush C (nI 8) dX3_sumByte_10 (by decide) rfl ?_
  refine r_iload_n C 1 dX3_sumByte_12 rfl rfl ?_
  refine r_iconst C (nI 4) dX3_sumByte_13 (by decide) rfl ?_
  refine r_irem C dX3_sumByte_14 (by decide) rfl ?_
  refine r_ti (show ((nI i) - (nI i) / (nI 4) * (nI 4) : Int32) = nI (i % 4) from pk_rem (by omega) (by omega) (by omega)) ?_
  refine r_imul C dX3_sumByte_15 rfl ?_
  refine r_ti (show ((nI 8) * (nI (i % 4)) : Int32) = nI (8 * (i % 4)) from pk_mul 8 (i % 4)) ?_
  refine r_isub C dX3_sumByte_16 rfl ?_
  refine r_ti (show ((nI 24) - (nI (8 * (i % 4))) : Int32) = nI (24 - (8 * (i % 4))) from pk_sub (by omega)) ?_
  refine r_iushr C dX3_sumByte_17 rfl ?_
  refine r_i2b C dX3_sumByte_18 rfl ?_
  exact r_zret C rfl (pk_nb _) (by decide) (by decide) dX3_sumByte_19 ⟨rfl, rfl⟩
