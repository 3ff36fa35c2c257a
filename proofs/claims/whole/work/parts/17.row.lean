/-! Row, Ticket, Tare: the leaves of the class -/
/-- a counter that falls to -1 -/
def kk9 : Nat → Int32
  | 0 => -1
  | r + 1 => nI r
theorem kk9_dec (r : Nat) : nI r + Int32.ofInt (-1) = kk9 r := by
  cases r with
  | zero => decide
  | succ r => exact pk_m1 r
/-- byte k of a long, the lowest first -/
def byL (v : Int64) (k : Nat) : Int32 := (v.toUInt64 >>> ((nI (8 * k)).toInt64.toUInt64 &&& Int64.toUInt64 63)).toInt64.toInt32.toInt8.toInt32
/-- c of wd bytes of a number laid at n, the highest first -/
def wrF (f : Nat → Int32) (n wd c : Nat) (v : Int64) : Nat → Int32 := fun j => if n ≤ j ∧ j < n + c then byL v (wd - 1 - (j - n)) else f j
theorem wrF_0 {f : Nat → Int32} {n wd : Nat} {v : Int64} : wrF f n wd 0 v = f := by
  funext j
  exact if_neg (by omega)
theorem wrF_s {f : Nat → Int32} {n wd c : Nat} {v : Int64} : upd (wrF f n wd c v) (n + c) (byL v (wd - 1 - c)) = wrF f n wd (c + 1) v := by
  funext j
  unfold upd wrF
  by_cases h : j = n + c
  · subst h
    rw [if_pos rfl, if_pos (by omega), Nat.add_sub_cancel_left]
  · rw [if_neg h]
    by_cases h2 : n ≤ j ∧ j < n + c
    · rw [if_pos h2, if_pos (by omega)]
    · rw [if_neg h2, if_neg (by omega)]

set_option maxHeartbeats 4000000 in
set_option maxRecDepth 20000 in
theorem c_RowInit {l : Launch} {g : cx_G} {w : wd_T} {a t : Nat} {dy : Int32} (h0 : w t = some (a, ob 2 [.null, .int 0, .int 0])) : Mt l g yX2_init cX2_init 2 none 1 1 73 w [.ref a, .int dy] (fun v w' => v = none ∧ (∃ ab, w' t = some (a, ob 2 [.ref ab, .int dy, .int (nI 0)]) ∧ w' (t + 1) = some (ab, aB g 73 (fun _ => 0))) ∧ Fr w w' t (t + 2)) := by
  refine mt_of RX2 "<init>" rfl rfl (by decide) (Nat.le_of_ble_eq_true rfl) [(0, .ref a), (1, .int dy)] rfl ?_
  intro k hkl C hin
  subst hkl
  refine r_aload_n C 0 dX2_init_0 rfl rfl ?_
  refine r_objI C q317 q33 q34 (by decide) (Nat.le_of_ble_eq_true rfl) dX2_init_1 rfl ?_
  refine r_aload_n C 0 dX2_init_4 rfl rfl ?_
  refine r_bipush C (nI 73) dX2_init_5 (by decide) rfl ?_
  refine r_newb C 73 rfl (by decide) q101 (t + 1) (by decide) (by decide) dX2_init_7 rfl (fun ab => ?_)
  refine r_putF (t := t) (w' := wd_set (wd_set w (t + 1) ab (aB g 73 (fun _ => 0))) t a (ob 2 [.ref ab, .int 0, .int 0])) C koX2 ((wd_ne (by omega)).trans h0) 0 (by decide) q318 rfl rfl hin rfl rfl rfl (Nat.le_of_ble_eq_true rfl) dX2_init_9 rfl rfl ?_
  refine r_aload_n C 0 dX2_init_12 rfl rfl ?_
  refine r_iconst C (nI 0) dX2_init_13 (by decide) rfl ?_
  refine r_put (t := t) (w' := wd_set (wd_set w (t + 1) ab (aB g 73 (fun _ => 0))) t a (ob 2 [.ref ab, .int 0, .int (nI 0)])) C koX2 wd_eq 2 (by decide) q322 rfl rfl rfl rfl (Nat.le_of_ble_eq_true rfl) dX2_init_14 rfl wd_ss ?_
  refine r_aload_n C 0 dX2_init_17 rfl rfl ?_
  refine r_iload_n C 1 dX2_init_18 rfl rfl ?_
  refine r_putF (t := t) (w' := wd_set (wd_set w (t + 1) ab (aB g 73 (fun _ => 0))) t a (ob 2 [.ref ab, .int dy, .int (nI 0)])) C koX2 wd_eq 1 (by decide) q320 rfl rfl hin rfl rfl rfl (Nat.le_of_ble_eq_true rfl) dX2_init_19 rfl wd_ss ?_
  refine r_vret C rfl (by decide) (by decide) dX2_init_22 ⟨rfl, ⟨_, wd_eq, ((wd_ne (by omega)).trans wd_eq)⟩, fun u hu => ?_⟩
  simp only [wd_set]
  rw [if_neg (by omega), if_neg (by omega)]

set_option maxHeartbeats 4000000 in
set_option maxRecDepth 20000 in
theorem c_RowWrite {l : Launch} {g : cx_G} {w : wd_T} {a t ab n wd : Nat} {dy : Int32} {f : Nat → Int32} {v : Int64} (h0 : w t = some (a, ob 2 [.ref ab, .int dy, .int (nI n)])) (h1 : w (t + 1) = some (ab, aB g 73 f)) (hw : 1 ≤ wd) (hw2 : wd ≤ 8) (hn : n + wd ≤ 41) : Mt l g yX2_write cX2_write 5 none 0 0 0 w [.ref a, .long v, .int (nI wd)] (fun v9 w' => v9 = none ∧ w' t = some (a, ob 2 [.ref ab, .int dy, .int (nI (n + wd))]) ∧ w' (t + 1) = some (ab, aB g 73 (wrF f n wd wd v)) ∧ Fr w w' t (t + 2)) := by
  refine mt_of RX2 "write" rfl rfl (by decide) (Nat.le_of_ble_eq_true rfl) [(0, .ref a), (1, .long v), (3, .int (nI wd))] rfl ?_
  intro k hkl C hin
  subst hkl
  refine r_iload_n C 2 dX2_write_0 rfl rfl ?_
  refine r_iconst C (nI 1) dX2_write_1 (by decide) rfl ?_
  refine r_isub C dX2_write_2 rfl ?_
  refine r_ti (show ((nI wd) - (nI 1) : Int32) = nI (wd - 1) from pk_sub (by omega)) ?_
  refine r_istore (lv' := [(4, .int (nI (wd - 1))), (0, .ref a), (1, .long v), (3, .int (nI wd))]) C dX2_write_3 (by decide) rfl rfl ?_
  have loop : ∀ (r i : Nat)  (w1 : wd_T), i + r = wd → (w1 t = some (a, ob 2 [.ref ab, .int dy, .int (nI (n + i))])) → (w1 (t + 1) = some (ab, aB g 73 (wrF f n wd i v))) → (Fr w w1 t (t + 2)) → V g k 5 w1 0 0 (kQ g k (fun v9 w' => v9 = none ∧ w' t = some (a, ob 2 [.ref ab, .int dy, .int (nI (n + wd))]) ∧ w' (t + 1) = some (ab, aB g 73 (wrF f n wd wd v)) ∧ Fr w w' t (t + 2)) 0 0) 5 [(4, .int (kk9 r)), (0, .ref a), (1, .long v), (3, .int (nI wd))] [] := by
    intro r
    induction r with
    | zero =>
      intro i  w1 hi g0 g1 gf
      refine r_iload C 0 dX2_write_5 rfl rfl ?_
      refine r_if_lt_t (tgt := 53) C dX2_write_7 (by decide) (by decide) ?_
      obtain rfl : i = wd := by omega
      exact r_vret C rfl (by decide) (by decide) dX2_write_53 ⟨rfl, g0, g1, gf⟩
    | succ r ih =>
      intro i  w1 hi g0 g1 gf
      show V g k 5 w1 0 0 (kQ g k (fun v9 w' => v9 = none ∧ w' t = some (a, ob 2 [.ref ab, .int dy, .int (nI (n + wd))]) ∧ w' (t + 1) = some (ab, aB g 73 (wrF f n wd wd v)) ∧ Fr w w' t (t + 2)) 0 0) 5 [(4, .int (nI r)), (0, .ref a), (1, .long v), (3, .int (nI wd))] []
      refine r_iload C 0 dX2_write_5 rfl rfl ?_
      refine r_if_lt_f (tgt := 53) C dX2_write_7 (by decide) rfl (nI_pos (by omega)) ?_
      refine r_aload_n C 1 dX2_write_10 rfl rfl ?_
      refine r_get (t := t) C koX2 g0 2 (by decide) q322 rfl rfl dX2_write_11 rfl ?_
      refine r_bipush C (nI 41) dX2_write_14 (by decide) rfl ?_
      refine r_icmp_ge_f (tgt := 47) C dX2_write_16 (by decide) rfl (fun z => absurd ((nI_leI (a := 41) (b := (n + i)) (by omega) (by omega)).mp z) (by omega)) ?_
      refine r_aload_n C 1 dX2_write_19 rfl rfl ?_
      refine r_get (t := t) C koX2 g0 0 (by decide) q318 rfl rfl dX2_write_20 rfl ?_
      refine r_aload_n C 1 dX2_write_23 rfl rfl ?_
      refine r_get (t := t) C koX2 g0 2 (by decide) q322 rfl rfl dX2_write_24 rfl ?_
      refine r_lload_n C 2 dX2_write_27 rfl rfl ?_
      refine r_bipush C (nI 8) dX2_write_28 (by decide) rfl ?_
      refine r_iload C 0 dX2_write_30 rfl rfl ?_
      refine r_imul C dX2_write_32 rfl ?_
      refine r_ti (show ((nI 8) * (nI r) : Int32) = nI (8 * r) from pk_mul 8 r) ?_
      refine r_lushr C dX2_write_33 rfl ?_
      refine r_l2i C dX2_write_34 rfl ?_
      refine r_i2b C dX2_write_35 rfl ?_
      refine r_bast8 (t := (t + 1)) (w' := wd_set w1 (t + 1) ab (aB g 73 (upd (wrF f n wd i v) (n + i) (((v.toUInt64 >>> ((nI (8 * r)).toInt64.toUInt64 &&& Int64.toUInt64 63)).toInt64).toInt32).toInt8.toInt32))) C g1 (n + i) rfl (by omega) (by decide) dX2_write_36 rfl rfl ?_
      refine r_aload_n C 1 dX2_write_37 rfl rfl ?_
      refine r_dup C dX2_write_38 rfl rfl ?_
      refine r_get (t := t) C koX2 ((wd_ne (by omega)).trans g0) 2 (by decide) q322 rfl rfl dX2_write_39 rfl ?_
      refine r_iconst C (nI 1) dX2_write_42 (by decide) rfl ?_
      refine r_iadd C dX2_write_43 rfl ?_
      refine r_ti (show ((nI (n + i)) + (nI 1) : Int32) = nI (n + i + 1) from nI_add (n + i) 1) ?_
      refine r_put (t := t) (w' := wd_set (wd_set w1 (t + 1) ab (aB g 73 (upd (wrF f n wd i v) (n + i) (((v.toUInt64 >>> ((nI (8 * r)).toInt64.toUInt64 &&& Int64.toUInt64 63)).toInt64).toInt32).toInt8.toInt32))) t a (ob 2 [.ref ab, .int dy, .int (nI (n + i + 1))])) C koX2 ((wd_ne (by omega)).trans g0) 2 (by decide) q322 rfl rfl rfl rfl (Nat.le_of_ble_eq_true rfl) dX2_write_44 rfl rfl ?_
      refine r_iinc (v := kk9 r) (lv' := [(4, .int (kk9 r)), (0, .ref a), (1, .long v), (3, .int (nI wd))]) C 0 dX2_write_47 rfl (kk9_dec r) (by decide) rfl rfl ?_
      refine r_goto (tgt := 5) C dX2_write_50 (by decide) ?_
      refine ih (i + 1) _ (by omega) wd_eq ?_ (gf.trans ((Fr.set (by omega) (by omega)).trans (Fr.set (by omega) (by omega))))
      rw [← wrF_s, show wd - 1 - i = r by omega]
      exact (wd_ne (by omega)).trans wd_eq
  have e9 : kk9 wd = nI (wd - 1) := by obtain ⟨m, rfl⟩ : ∃ m, wd = m + 1 := ⟨wd - 1, by omega⟩; rfl
  rw [← e9]
  exact loop wd 0 w (by omega) h0 (by rw [wrF_0]; exact h1) Fr.rfl'

set_option maxHeartbeats 4000000 in
set_option maxRecDepth 20000 in
theorem c_has_y {l : Launch} {g : cx_G} {w : wd_T} {a t ab : Nat} {dy n : Int32} {f : Nat → Int32} (h0 : w t = some (a, ob 2 [.ref ab, .int dy, .int n])) (h1 : w (t + 1) = some (ab, aB g 73 f)) {i : Nat} (hi : i < 73) : Mt l g yX2_has cX2_has 2 (some .boolean) 0 0 0 w [.ref a, .int (nI i)] (fun v w' => v = some (.int (nI 1)) ∧ w = w') := by
  refine mt_of RX2 "has" rfl rfl (by decide) (Nat.le_of_ble_eq_true rfl) [(0, .ref a), (1, .int (nI i))] rfl ?_
  intro k hkl C hin
  subst hkl
  refine r_iload_n C 1 dX2_has_0 rfl rfl ?_
  refine r_if_lt_f (tgt := 17) C dX2_has_1 (by decide) rfl (nI_pos (by omega)) ?_
  refine r_iload_n C 1 dX2_has_4 rfl rfl ?_
  refine r_aload_n C 0 dX2_has_5 rfl rfl ?_
  refine r_get (t := t) C koX2 h0 0 (by decide) q318 rfl rfl dX2_has_6 rfl ?_
  refine r_blen (t := (t + 1)) C h1 dX2_has_9 rfl ?_
  refine r_icmp_ge_f (tgt := 17) C dX2_has_10 (by decide) rfl (fun z => absurd ((nI_leI (a := 73) (b := i) (by omega) (by omega)).mp z) (by omega)) ?_
  refine r_iconst C (nI 1) dX2_has_13 (by decide) rfl ?_
  refine r_goto (tgt := 18) C dX2_has_14 (by decide) ?_
  exact r_zret C rfl rfl (by decide) (by decide) dX2_has_18 ⟨rfl, rfl⟩

set_option maxHeartbeats 4000000 in
set_option maxRecDepth 20000 in
theorem c_has_n {l : Launch} {g : cx_G} {w : wd_T} {a t ab : Nat} {dy n : Int32} {f : Nat → Int32} (h0 : w t = some (a, ob 2 [.ref ab, .int dy, .int n])) (h1 : w (t + 1) = some (ab, aB g 73 f)) {x : Int32} (hx : x < 0 ∨ nI 73 ≤ x) : Mt l g yX2_has cX2_has 2 (some .boolean) 0 0 0 w [.ref a, .int x] (fun v w' => v = some (.int (nI 0)) ∧ w = w') := by
  refine mt_of RX2 "has" rfl rfl (by decide) (Nat.le_of_ble_eq_true rfl) [(0, .ref a), (1, .int x)] rfl ?_
  intro k hkl C hin
  subst hkl
  refine r_iload_n C 1 dX2_has_0 rfl rfl ?_
  refine r_if_lt (tgt := 17) C dX2_has_1 (by decide) rfl (fun hc1 => ?_) (fun hc1 => ?_)
  · refine r_iconst C (nI 0) dX2_has_17 (by decide) rfl ?_
    exact r_zret C rfl rfl (by decide) (by decide) dX2_has_18 ⟨rfl, rfl⟩
  · refine r_iload_n C 1 dX2_has_4 rfl rfl ?_
    refine r_aload_n C 0 dX2_has_5 rfl rfl ?_
    refine r_get (t := t) C koX2 h0 0 (by decide) q318 rfl rfl dX2_has_6 rfl ?_
    refine r_blen (t := (t + 1)) C h1 dX2_has_9 rfl ?_
    refine r_icmp_ge_t (tgt := 17) C dX2_has_10 (by decide) (by rcases hx with z | z; exact absurd z hc1; exact z) ?_
    refine r_iconst C (nI 0) dX2_has_17 (by decide) rfl ?_
    exact r_zret C rfl rfl (by decide) (by decide) dX2_has_18 ⟨rfl, rfl⟩

set_option maxHeartbeats 4000000 in
set_option maxRecDepth 20000 in
theorem c_val_y {l : Launch} {g : cx_G} {w : wd_T} {a t ab : Nat} {dy n : Int32} {f : Nat → Int32} (h0 : w t = some (a, ob 2 [.ref ab, .int dy, .int n])) (h1 : w (t + 1) = some (ab, aB g 73 f)) {i : Nat} (hi : i < 73) : Mt l g yX2_value cX2_value 2 (some .int) 1 0 0 w [.ref a, .int (nI i)] (fun v w' => v = some (.int (f i &&& nI 255)) ∧ w = w') := by
  refine mt_of RX2 "value" rfl rfl (by decide) (Nat.le_of_ble_eq_true rfl) [(0, .ref a), (1, .int (nI i))] rfl ?_
  intro k hkl C hin
  subst hkl
  refine r_aload_n C 0 dX2_value_0 rfl rfl ?_
  refine r_iload_n C 1 dX2_value_1 rfl rfl ?_
  refine r_callV (t := t) (As := [.int (nI i)]) (st := []) C koX2 h0 (c_has_y h0 h1 hi) q563 q560 q561 q562 q18 rfl ⟨by decide, by decide⟩ (show (parseMethodDescriptor yX2_has.desc).map (fun d => d.parameters.length) = some 1 by decide +kernel) (by decide) (by decide) (by decide) (by decide) (Nat.le_of_ble_eq_true rfl) rfl dX2_value_2 rfl ?_
  rintro v9 w1 ⟨rfl, rfl⟩
  show V g k 2 w 0 0 (kQ g k (fun v w' => v = some (.int (f i &&& nI 255)) ∧ w = w') 0 0) 5 [(0, .ref a), (1, .int (nI i))] [.int (nI 1)]
  refine r_if_eq_f (tgt := 21) C dX2_value_5 (by decide) rfl (fun z => absurd ((nI_eq (a := 1) (b := 0) (by omega) (by omega)).mp z) (by omega)) ?_
  refine r_aload_n C 0 dX2_value_8 rfl rfl ?_
  refine r_get (t := t) C koX2 h0 0 (by decide) q318 rfl rfl dX2_value_9 rfl ?_
  refine r_iload_n C 1 dX2_value_12 rfl rfl ?_
  refine r_bald (t := (t + 1)) C h1 i rfl (by omega) (by decide) dX2_value_13 rfl ?_
  refine r_sipush C (nI 255) dX2_value_14 (by decide) rfl ?_
  refine r_iand C dX2_value_17 rfl ?_
  refine r_goto (tgt := 22) C dX2_value_18 (by decide) ?_
  exact r_iret C rfl (by decide) (by decide) dX2_value_22 ⟨rfl, rfl⟩

set_option maxHeartbeats 4000000 in
set_option maxRecDepth 20000 in
theorem c_val_n {l : Launch} {g : cx_G} {w : wd_T} {a t ab : Nat} {dy n : Int32} {f : Nat → Int32} (h0 : w t = some (a, ob 2 [.ref ab, .int dy, .int n])) (h1 : w (t + 1) = some (ab, aB g 73 f)) {x : Int32} (hx : x < 0 ∨ nI 73 ≤ x) : Mt l g yX2_value cX2_value 2 (some .int) 1 0 0 w [.ref a, .int x] (fun v w' => v = some (.int (-1)) ∧ w = w') := by
  refine mt_of RX2 "value" rfl rfl (by decide) (Nat.le_of_ble_eq_true rfl) [(0, .ref a), (1, .int x)] rfl ?_
  intro k hkl C hin
  subst hkl
  refine r_aload_n C 0 dX2_value_0 rfl rfl ?_
  refine r_iload_n C 1 dX2_value_1 rfl rfl ?_
  refine r_callV (t := t) (As := [.int x]) (st := []) C koX2 h0 (c_has_n h0 h1 hx) q563 q560 q561 q562 q18 rfl ⟨by decide, by decide⟩ (show (parseMethodDescriptor yX2_has.desc).map (fun d => d.parameters.length) = some 1 by decide +kernel) (by decide) (by decide) (by decide) (by decide) (Nat.le_of_ble_eq_true rfl) rfl dX2_value_2 rfl ?_
  rintro v9 w1 ⟨rfl, rfl⟩
  show V g k 2 w 0 0 (kQ g k (fun v w' => v = some (.int (-1)) ∧ w = w') 0 0) 5 [(0, .ref a), (1, .int x)] [.int (nI 0)]
  refine r_if_eq_t (tgt := 21) C dX2_value_5 (by decide) ((nI_eq (a := 0) (b := 0) (by omega) (by omega)).mpr (by omega)) ?_
  refine r_iconst C ((-1)) dX2_value_21 (by decide) rfl ?_
  exact r_iret C rfl (by decide) (by decide) dX2_value_22 ⟨rfl, rfl⟩

set_option maxHeartbeats 4000000 in
set_option maxRecDepth 20000 in
theorem c_chg_y {l : Launch} {g : cx_G} {w : wd_T} {a t ab : Nat} {dy n : Int32} {f : Nat → Int32} (h0 : w t = some (a, ob 2 [.ref ab, .int dy, .int n])) (h1 : w (t + 1) = some (ab, aB g 73 f)) {i : Nat} {mk : Int32} (hi : i < 73) : Mt l g yX2_change cX2_change 3 (some .boolean) 1 0 0 w [.ref a, .int (nI i), .int mk] (fun v w' => v = some (.int (nI 1)) ∧ w' (t + 1) = some (ab, aB g 73 (upd f i (f i ^^^ mk).toInt8.toInt32)) ∧ Fr w w' (t + 1) (t + 2)) := by
  refine mt_of RX2 "change" rfl rfl (by decide) (Nat.le_of_ble_eq_true rfl) [(0, .ref a), (1, .int (nI i)), (2, .int mk)] rfl ?_
  intro k hkl C hin
  subst hkl
  refine r_aload_n C 0 dX2_change_0 rfl rfl ?_
  refine r_iload_n C 1 dX2_change_1 rfl rfl ?_
  refine r_callV (t := t) (As := [.int (nI i)]) (st := []) C koX2 h0 (c_has_y h0 h1 hi) q563 q560 q561 q562 q18 rfl ⟨by decide, by decide⟩ (show (parseMethodDescriptor yX2_has.desc).map (fun d => d.parameters.length) = some 1 by decide +kernel) (by decide) (by decide) (by decide) (by decide) (Nat.le_of_ble_eq_true rfl) rfl dX2_change_2 rfl ?_
  rintro v9 w1 ⟨rfl, rfl⟩
  show V g k 3 w 0 0 (kQ g k (fun v w' => v = some (.int (nI 1)) ∧ w' (t + 1) = some (ab, aB g 73 (upd f i (f i ^^^ mk).toInt8.toInt32)) ∧ Fr w w' (t + 1) (t + 2)) 0 0) 5 [(0, .ref a), (1, .int (nI i)), (2, .int mk)] [.int (nI 1)]
  refine r_if_ne_t (tgt := 10) C dX2_change_5 (by decide) (fun z => absurd ((nI_eq (a := 1) (b := 0) (by omega) (by omega)).mp z) (by omega)) ?_
  refine r_aload_n C 0 dX2_change_10 rfl rfl ?_
  refine r_get (t := t) C koX2 h0 0 (by decide) q318 rfl rfl dX2_change_11 rfl ?_
  refine r_iload_n C 1 dX2_change_14 rfl rfl ?_
  refine r_aload_n C 0 dX2_change_15 rfl rfl ?_
  refine r_get (t := t) C koX2 h0 0 (by decide) q318 rfl rfl dX2_change_16 rfl ?_
  refine r_iload_n C 1 dX2_change_19 rfl rfl ?_
  refine r_bald (t := (t + 1)) C h1 i rfl (by omega) (by decide) dX2_change_20 rfl ?_
  refine r_iload_n C 2 dX2_change_21 rfl rfl ?_
  refine r_ixor C dX2_change_22 rfl ?_
  refine r_i2b C dX2_change_23 rfl ?_
  refine r_bast8 (t := (t + 1)) (w' := wd_set w (t + 1) ab (aB g 73 (upd f i ((f i) ^^^ mk).toInt8.toInt32))) C h1 i rfl (by omega) (by decide) dX2_change_24 rfl rfl ?_
  refine r_iconst C (nI 1) dX2_change_25 (by decide) rfl ?_
  exact r_zret C rfl rfl (by decide) (by decide) dX2_change_26 ⟨rfl, wd_eq, Fr.set (by omega) (by omega)⟩

set_option maxHeartbeats 4000000 in
set_option maxRecDepth 20000 in
theorem c_chg_n {l : Launch} {g : cx_G} {w : wd_T} {a t ab : Nat} {dy n : Int32} {f : Nat → Int32} (h0 : w t = some (a, ob 2 [.ref ab, .int dy, .int n])) (h1 : w (t + 1) = some (ab, aB g 73 f)) {x mk : Int32} (hx : x < 0 ∨ nI 73 ≤ x) : Mt l g yX2_change cX2_change 3 (some .boolean) 1 0 0 w [.ref a, .int x, .int mk] (fun v w' => v = some (.int (nI 0)) ∧ w = w') := by
  refine mt_of RX2 "change" rfl rfl (by decide) (Nat.le_of_ble_eq_true rfl) [(0, .ref a), (1, .int x), (2, .int mk)] rfl ?_
  intro k hkl C hin
  subst hkl
  refine r_aload_n C 0 dX2_change_0 rfl rfl ?_
  refine r_iload_n C 1 dX2_change_1 rfl rfl ?_
  refine r_callV (t := t) (As := [.int x]) (st := []) C koX2 h0 (c_has_n h0 h1 hx) q563 q560 q561 q562 q18 rfl ⟨by decide, by decide⟩ (show (parseMethodDescriptor yX2_has.desc).map (fun d => d.parameters.length) = some 1 by decide +kernel) (by decide) (by decide) (by decide) (by decide) (Nat.le_of_ble_eq_true rfl) rfl dX2_change_2 rfl ?_
  rintro v9 w1 ⟨rfl, rfl⟩
  show V g k 3 w 0 0 (kQ g k (fun v w' => v = some (.int (nI 0)) ∧ w = w') 0 0) 5 [(0, .ref a), (1, .int x), (2, .int mk)] [.int (nI 0)]
  refine r_if_ne_f (tgt := 10) C dX2_change_5 (by decide) rfl ((nI_eq (a := 0) (b := 0) (by omega) (by omega)).mpr (by omega)) ?_
  refine r_iconst C (nI 0) dX2_change_8 (by decide) rfl ?_
  exact r_zret C rfl rfl (by decide) (by decide) dX2_change_9 ⟨rfl, rfl⟩

set_option maxHeartbeats 4000000 in
set_option maxRecDepth 20000 in
theorem c_TareInit {l : Launch} {g : cx_G} {w : wd_T} {a t : Nat} {dy vh : Int32} {wt : Int64} (h0 : w t = some (a, ob 4 [.int 0, .int 0, .long 0])) : Mt l g yX4_init cX4_init 5 none 1 0 0 w [.ref a, .int dy, .int vh, .long wt] (fun v w' => v = none ∧ w' t = some (a, ob 4 [.int dy, .int vh, .long wt]) ∧ Fr w w' t (t + 1)) := by
  refine mt_of RX4 "<init>" rfl rfl (by decide) (Nat.le_of_ble_eq_true rfl) [(0, .ref a), (1, .int dy), (2, .int vh), (3, .long wt)] rfl ?_
  intro k hkl C hin
  subst hkl
  refine r_aload_n C 0 dX4_init_0 rfl rfl ?_
  refine r_objI C q195 q33 q34 (by decide) (Nat.le_of_ble_eq_true rfl) dX4_init_1 rfl ?_
  refine r_aload_n C 0 dX4_init_4 rfl rfl ?_
  refine r_iload_n C 1 dX4_init_5 rfl rfl ?_
  refine r_putF (t := t) (w' := wd_set w t a (ob 4 [.int dy, .int 0, .long 0])) C koX4 h0 0 (by decide) q196 rfl rfl hin rfl rfl rfl (Nat.le_of_ble_eq_true rfl) dX4_init_6 rfl rfl ?_
  refine r_aload_n C 0 dX4_init_9 rfl rfl ?_
  refine r_iload_n C 2 dX4_init_10 rfl rfl ?_
  refine r_putF (t := t) (w' := wd_set w t a (ob 4 [.int dy, .int vh, .long 0])) C koX4 wd_eq 1 (by decide) q198 rfl rfl hin rfl rfl rfl (Nat.le_of_ble_eq_true rfl) dX4_init_11 rfl wd_ss ?_
  refine r_aload_n C 0 dX4_init_14 rfl rfl ?_
  refine r_lload_n C 3 dX4_init_15 rfl rfl ?_
  refine r_put (t := t) (w' := wd_set w t a (ob 4 [.int dy, .int vh, .long wt])) C koX4 wd_eq 2 (by decide) q200 rfl rfl rfl rfl (Nat.le_of_ble_eq_true rfl) dX4_init_16 rfl wd_ss ?_
  exact r_vret C rfl (by decide) (by decide) dX4_init_19 ⟨rfl, wd_eq, Fr.set (by omega) (by omega)⟩

set_option maxHeartbeats 4000000 in
set_option maxRecDepth 20000 in
theorem c_TkInit {l : Launch} {g : cx_G} {w : wd_T} {a t : Nat} {nu vh kd ps : Int32} {gr ta sc : Int64} (h0 : w t = some (a, ob 6 [.null, .null])) : Mt l g yX6_init cX6_init 11 none 1 2 17 w [.ref a, .int nu, .int vh, .int kd, .long gr, .long ta, .long sc, .int ps] (fun v w' => v = none ∧ (∃ (af aw : Nat) (ff : Nat → Int64), w' t = some (a, ob 6 [.ref af, .ref aw]) ∧ w' (t + 1) = some (af, aL g 9 ff) ∧ w' (t + 2) = some (aw, aL g 8 (fun _ => 0)) ∧ ff 0 = nu.toInt64 ∧ ff 1 = vh.toInt64 ∧ ff 2 = kd.toInt64 ∧ ff 3 = gr ∧ ff 4 = ta ∧ ff 5 = gr - ta ∧ ff 6 = sc ∧ ff 7 = ps.toInt64 ∧ ff 8 = 0) ∧ Fr w w' t (t + 3)) := by
  refine mt_of RX6 "<init>" rfl rfl (by decide) (Nat.le_of_ble_eq_true rfl) [(0, .ref a), (1, .int nu), (2, .int vh), (3, .int kd), (4, .long gr), (6, .long ta), (8, .long sc), (10, .int ps)] rfl ?_
  intro k hkl C hin
  subst hkl
  refine r_aload_n C 0 dX6_init_0 rfl rfl ?_
  refine r_objI C q294 q33 q34 (by decide) (Nat.le_of_ble_eq_true rfl) dX6_init_1 rfl ?_
  refine r_aload_n C 0 dX6_init_4 rfl rfl ?_
  refine r_bipush C (nI 9) dX6_init_5 (by decide) rfl ?_
  refine r_newl C 9 rfl (by decide) q302 (t + 1) (by decide) (by decide) dX6_init_7 rfl (fun af => ?_)
  refine r_putF (t := t) (w' := wd_set (wd_set w (t + 1) af (aL g 9 (fun _ => 0))) t a (ob 6 [.ref af, .null])) C koX6 ((wd_ne (by omega)).trans h0) 0 (by decide) q295 rfl rfl hin rfl rfl rfl (Nat.le_of_ble_eq_true rfl) dX6_init_9 rfl rfl ?_
  refine r_aload_n C 0 dX6_init_12 rfl rfl ?_
  refine r_bipush C (nI 8) dX6_init_13 (by decide) rfl ?_
  refine r_newl C 8 rfl (by decide) q302 (t + 2) (by decide) (by decide) dX6_init_15 rfl (fun aw => ?_)
  refine r_putF (t := t) (w' := wd_set (wd_set (wd_set w (t + 1) af (aL g 9 (fun _ => 0))) (t + 2) aw (aL g 8 (fun _ => 0))) t a (ob 6 [.ref af, .ref aw])) C koX6 ((wd_ne (by omega)).trans wd_eq) 1 (by decide) q296 rfl rfl hin rfl rfl rfl (Nat.le_of_ble_eq_true rfl) dX6_init_17 rfl (wd_pp wd_ss (by omega)) ?_
  refine r_aload_n C 0 dX6_init_20 rfl rfl ?_
  refine r_get (t := t) C koX6 wd_eq 0 (by decide) q295 rfl rfl dX6_init_21 rfl ?_
  refine r_iconst C (nI 0) dX6_init_24 (by decide) rfl ?_
  refine r_iload_n C 1 dX6_init_25 rfl rfl ?_
  refine r_i2l C dX6_init_26 rfl ?_
  refine r_last (t := (t + 1)) (w' := wd_set (wd_set (wd_set w (t + 2) aw (aL g 8 (fun _ => 0))) t a (ob 6 [.ref af, .ref aw])) (t + 1) af (aL g 9 (vp_updL (fun _ => 0) 0 nu.toInt64))) C ((wd_ne (by omega)).trans ((wd_ne (by omega)).trans wd_eq)) 0 rfl (by decide) (by decide) dX6_init_27 rfl (wd_pp (wd_pp wd_ss (by omega)) (by omega)) ?_
  refine r_aload_n C 0 dX6_init_28 rfl rfl ?_
  refine r_get (t := t) C koX6 ((wd_ne (by omega)).trans wd_eq) 0 (by decide) q295 rfl rfl dX6_init_29 rfl ?_
  refine r_iconst C (nI 1) dX6_init_32 (by decide) rfl ?_
  refine r_iload_n C 2 dX6_init_33 rfl rfl ?_
  refine r_i2l C dX6_init_34 rfl ?_
  refine r_last (t := (t + 1)) (w' := wd_set (wd_set (wd_set w (t + 2) aw (aL g 8 (fun _ => 0))) t a (ob 6 [.ref af, .ref aw])) (t + 1) af (aL g 9 (vp_updL (vp_updL (fun _ => 0) 0 nu.toInt64) 1 vh.toInt64))) C wd_eq 1 rfl (by decide) (by decide) dX6_init_35 rfl wd_ss ?_
  refine r_aload_n C 0 dX6_init_36 rfl rfl ?_
  refine r_get (t := t) C koX6 ((wd_ne (by omega)).trans wd_eq) 0 (by decide) q295 rfl rfl dX6_init_37 rfl ?_
  refine r_iconst C (nI 2) dX6_init_40 (by decide) rfl ?_
  refine r_iload_n C 3 dX6_init_41 rfl rfl ?_
  refine r_i2l C dX6_init_42 rfl ?_
  refine r_last (t := (t + 1)) (w' := wd_set (wd_set (wd_set w (t + 2) aw (aL g 8 (fun _ => 0))) t a (ob 6 [.ref af, .ref aw])) (t + 1) af (aL g 9 (vp_updL (vp_updL (vp_updL (fun _ => 0) 0 nu.toInt64) 1 vh.toInt64) 2 kd.toInt64))) C wd_eq 2 rfl (by decide) (by decide) dX6_init_43 rfl wd_ss ?_
  refine r_aload_n C 0 dX6_init_44 rfl rfl ?_
  refine r_get (t := t) C koX6 ((wd_ne (by omega)).trans wd_eq) 0 (by decide) q295 rfl rfl dX6_init_45 rfl ?_
  refine r_iconst C (nI 3) dX6_init_48 (by decide) rfl ?_
  refine r_lload C 4 dX6_init_49 rfl rfl ?_
  refine r_last (t := (t + 1)) (w' := wd_set (wd_set (wd_set w (t + 2) aw (aL g 8 (fun _ => 0))) t a (ob 6 [.ref af, .ref aw])) (t + 1) af (aL g 9 (vp_updL (vp_updL (vp_updL (vp_updL (fun _ => 0) 0 nu.toInt64) 1 vh.toInt64) 2 kd.toInt64) 3 gr))) C wd_eq 3 rfl (by decide) (by decide) dX6_init_51 rfl wd_ss ?_
  refine r_aload_n C 0 dX6_init_52 rfl rfl ?_
  refine r_get (t := t) C koX6 ((wd_ne (by omega)).trans wd_eq) 0 (by decide) q295 rfl rfl dX6_init_53 rfl ?_
  refine r_iconst C (nI 4) dX6_init_56 (by decide) rfl ?_
  refine r_lload C 5 dX6_init_57 rfl rfl ?_
  refine r_last (t := (t + 1)) (w' := wd_set (wd_set (wd_set w (t + 2) aw (aL g 8 (fun _ => 0))) t a (ob 6 [.ref af, .ref aw])) (t + 1) af (aL g 9 (vp_updL (vp_updL (vp_updL (vp_updL (vp_updL (fun _ => 0) 0 nu.toInt64) 1 vh.toInt64) 2 kd.toInt64) 3 gr) 4 ta))) C wd_eq 4 rfl (by decide) (by decide) dX6_init_59 rfl wd_ss ?_
  refine r_aload_n C 0 dX6_init_60 rfl rfl ?_
  refine r_get (t := t) C koX6 ((wd_ne (by omega)).trans wd_eq) 0 (by decide) q295 rfl rfl dX6_init_61 rfl ?_
  refine r_iconst C (nI 5) dX6_init_64 (by decide) rfl ?_
  refine r_lload C 4 dX6_init_65 rfl rfl ?_
  refine r_lload C 5 dX6_init_67 rfl rfl ?_
  refine r_lsub C dX6_init_69 rfl ?_
  refine r_last (t := (t + 1)) (w' := wd_set (wd_set (wd_set w (t + 2) aw (aL g 8 (fun _ => 0))) t a (ob 6 [.ref af, .ref aw])) (t + 1) af (aL g 9 (vp_updL (vp_updL (vp_updL (vp_updL (vp_updL (vp_updL (fun _ => 0) 0 nu.toInt64) 1 vh.toInt64) 2 kd.toInt64) 3 gr) 4 ta) 5 (gr - ta)))) C wd_eq 5 rfl (by decide) (by decide) dX6_init_70 rfl wd_ss ?_
  refine r_aload_n C 0 dX6_init_71 rfl rfl ?_
  refine r_get (t := t) C koX6 ((wd_ne (by omega)).trans wd_eq) 0 (by decide) q295 rfl rfl dX6_init_72 rfl ?_
  refine r_bipush C (nI 6) dX6_init_75 (by decide) rfl ?_
  refine r_lload C 6 dX6_init_77 rfl rfl ?_
  refine r_last (t := (t + 1)) (w' := wd_set (wd_set (wd_set w (t + 2) aw (aL g 8 (fun _ => 0))) t a (ob 6 [.ref af, .ref aw])) (t + 1) af (aL g 9 (vp_updL (vp_updL (vp_updL (vp_updL (vp_updL (vp_updL (vp_updL (fun _ => 0) 0 nu.toInt64) 1 vh.toInt64) 2 kd.toInt64) 3 gr) 4 ta) 5 (gr - ta)) 6 sc))) C wd_eq 6 rfl (by decide) (by decide) dX6_init_79 rfl wd_ss ?_
  refine r_aload_n C 0 dX6_init_80 rfl rfl ?_
  refine r_get (t := t) C koX6 ((wd_ne (by omega)).trans wd_eq) 0 (by decide) q295 rfl rfl dX6_init_81 rfl ?_
  refine r_bipush C (nI 7) dX6_init_84 (by decide) rfl ?_
  refine r_iload C 7 dX6_init_86 rfl rfl ?_
  refine r_i2l C dX6_init_88 rfl ?_
  refine r_last (t := (t + 1)) (w' := wd_set (wd_set (wd_set w (t + 2) aw (aL g 8 (fun _ => 0))) t a (ob 6 [.ref af, .ref aw])) (t + 1) af (aL g 9 (vp_updL (vp_updL (vp_updL (vp_updL (vp_updL (vp_updL (vp_updL (vp_updL (fun _ => 0) 0 nu.toInt64) 1 vh.toInt64) 2 kd.toInt64) 3 gr) 4 ta) 5 (gr - ta)) 6 sc) 7 ps.toInt64))) C wd_eq 7 rfl (by decide) (by decide) dX6_init_89 rfl wd_ss ?_
  refine r_vret C rfl (by decide) (by decide) dX6_init_90 ⟨rfl, ⟨_, _, _, ((wd_ne (by omega)).trans wd_eq), wd_eq, ((wd_ne (by omega)).trans ((wd_ne (by omega)).trans wd_eq)), rfl, rfl, rfl, rfl, rfl, rfl, rfl, rfl, rfl⟩, fun u hu => ?_⟩
  simp only [wd_set]
  rw [if_neg (by omega), if_neg (by omega), if_neg (by omega)]

set_option maxHeartbeats 4000000 in
set_option maxRecDepth 20000 in
theorem c_fld_y {l : Launch} {g : cx_G} {w : wd_T} {a t af aw : Nat} {ff : Nat → Int64} (h0 : w t = some (a, ob 6 [.ref af, .ref aw])) (h1 : w (t + 1) = some (af, aL g 9 ff)) {i : Nat} (hi : i < 9) : Mt l g yX6_field cX6_field 2 (some .long) 0 0 0 w [.ref a, .int (nI i)] (fun v w' => v = some (.long (ff i)) ∧ w = w') := by
  refine mt_of RX6 "field" rfl rfl (by decide) (Nat.le_of_ble_eq_true rfl) [(0, .ref a), (1, .int (nI i))] rfl ?_
  intro k hkl C hin
  subst hkl
  refine r_iload_n C 1 dX6_field_0 rfl rfl ?_
  refine r_if_lt_f (tgt := 22) C dX6_field_1 (by decide) rfl (nI_pos (by omega)) ?_
  refine r_iload_n C 1 dX6_field_4 rfl rfl ?_
  refine r_aload_n C 0 dX6_field_5 rfl rfl ?_
  refine r_get (t := t) C koX6 h0 0 (by decide) q295 rfl rfl dX6_field_6 rfl ?_
  refine r_llen (t := (t + 1)) C h1 dX6_field_9 rfl ?_
  refine r_icmp_ge_f (tgt := 22) C dX6_field_10 (by decide) rfl (fun z => absurd ((nI_leI (a := 9) (b := i) (by omega) (by omega)).mp z) (by omega)) ?_
  refine r_aload_n C 0 dX6_field_13 rfl rfl ?_
  refine r_get (t := t) C koX6 h0 0 (by decide) q295 rfl rfl dX6_field_14 rfl ?_
  refine r_iload_n C 1 dX6_field_17 rfl rfl ?_
  refine r_lald (t := (t + 1)) C h1 i rfl (by omega) (by decide) dX6_field_18 rfl ?_
  refine r_goto (tgt := 25) C dX6_field_19 (by decide) ?_
  exact r_lret C rfl (by decide) (by decide) dX6_field_25 ⟨rfl, rfl⟩

set_option maxHeartbeats 4000000 in
set_option maxRecDepth 20000 in
theorem c_fld_n {l : Launch} {g : cx_G} {w : wd_T} {a t af aw : Nat} {ff : Nat → Int64} (h0 : w t = some (a, ob 6 [.ref af, .ref aw])) (h1 : w (t + 1) = some (af, aL g 9 ff)) {x : Int32} (hx : x < 0 ∨ nI 9 ≤ x) : Mt l g yX6_field cX6_field 2 (some .long) 0 0 0 w [.ref a, .int x] (fun v w' => v = some (.long (-1)) ∧ w = w') := by
  refine mt_of RX6 "field" rfl rfl (by decide) (Nat.le_of_ble_eq_true rfl) [(0, .ref a), (1, .int x)] rfl ?_
  intro k hkl C hin
  subst hkl
  refine r_iload_n C 1 dX6_field_0 rfl rfl ?_
  refine r_if_lt (tgt := 22) C dX6_field_1 (by decide) rfl (fun hc1 => ?_) (fun hc1 => ?_)
  · refine r_ldc2 (v := (-1)) C dX6_field_22 q313 rfl ?_
    exact r_lret C rfl (by decide) (by decide) dX6_field_25 ⟨rfl, rfl⟩
  · refine r_iload_n C 1 dX6_field_4 rfl rfl ?_
    refine r_aload_n C 0 dX6_field_5 rfl rfl ?_
    refine r_get (t := t) C koX6 h0 0 (by decide) q295 rfl rfl dX6_field_6 rfl ?_
    refine r_llen (t := (t + 1)) C h1 dX6_field_9 rfl ?_
    refine r_icmp_ge_t (tgt := 22) C dX6_field_10 (by decide) (by rcases hx with z | z; exact absurd z hc1; exact z) ?_
    refine r_ldc2 (v := (-1)) C dX6_field_22 q313 rfl ?_
    exact r_lret C rfl (by decide) (by decide) dX6_field_25 ⟨rfl, rfl⟩

set_option maxHeartbeats 4000000 in
set_option maxRecDepth 20000 in
theorem c_isv_y {l : Launch} {g : cx_G} {w : wd_T} {a t af aw : Nat} {ff : Nat → Int64} (h0 : w t = some (a, ob 6 [.ref af, .ref aw])) (h1 : w (t + 1) = some (af, aL g 9 ff)) (hv : ¬ ff 8 = lN 0) : Mt l g yX6_isVoid cX6_isVoid 1 (some .boolean) 0 0 0 w [.ref a] (fun v w' => v = some (.int (nI 1)) ∧ w = w') := by
  refine mt_of RX6 "isVoid" rfl rfl (by decide) (Nat.le_of_ble_eq_true rfl) [(0, .ref a)] rfl ?_
  intro k hkl C hin
  subst hkl
  refine r_aload_n C 0 dX6_isVoid_0 rfl rfl ?_
  refine r_get (t := t) C koX6 h0 0 (by decide) q295 rfl rfl dX6_isVoid_1 rfl ?_
  refine r_bipush C (nI 8) dX6_isVoid_4 (by decide) rfl ?_
  refine r_lald (t := (t + 1)) C h1 8 rfl (by decide) (by decide) dX6_isVoid_6 rfl ?_
  refine r_lconst C (lN 0) dX6_isVoid_7 (by decide) rfl ?_
  refine r_lcmp_eq (tgt := 16) C dX6_isVoid_8 rfl dX6_isVoid_9 (by decide) rfl (fun hz1 => absurd (hv) (by first | exact hz1 | exact fun zz => zz hz1)) (fun _ => ?_)
  refine r_iconst C (nI 1) dX6_isVoid_12 (by decide) rfl ?_
  refine r_goto (tgt := 17) C dX6_isVoid_13 (by decide) ?_
  exact r_zret C rfl rfl (by decide) (by decide) dX6_isVoid_17 ⟨rfl, rfl⟩

set_option maxHeartbeats 4000000 in
set_option maxRecDepth 20000 in
theorem c_isv_n {l : Launch} {g : cx_G} {w : wd_T} {a t af aw : Nat} {ff : Nat → Int64} (h0 : w t = some (a, ob 6 [.ref af, .ref aw])) (h1 : w (t + 1) = some (af, aL g 9 ff)) (hv : ff 8 = lN 0) : Mt l g yX6_isVoid cX6_isVoid 1 (some .boolean) 0 0 0 w [.ref a] (fun v w' => v = some (.int (nI 0)) ∧ w = w') := by
  refine mt_of RX6 "isVoid" rfl rfl (by decide) (Nat.le_of_ble_eq_true rfl) [(0, .ref a)] rfl ?_
  intro k hkl C hin
  subst hkl
  refine r_aload_n C 0 dX6_isVoid_0 rfl rfl ?_
  refine r_get (t := t) C koX6 h0 0 (by decide) q295 rfl rfl dX6_isVoid_1 rfl ?_
  refine r_bipush C (nI 8) dX6_isVoid_4 (by decide) rfl ?_
  refine r_lald (t := (t + 1)) C h1 8 rfl (by decide) (by decide) dX6_isVoid_6 rfl ?_
  refine r_lconst C (lN 0) dX6_isVoid_7 (by decide) rfl ?_
  refine r_lcmp_eq (tgt := 16) C dX6_isVoid_8 rfl dX6_isVoid_9 (by decide) rfl (fun _ => ?_) (fun hz1 => absurd (hv) (by first | exact hz1 | exact fun zz => zz hz1))
  refine r_iconst C (nI 0) dX6_isVoid_16 (by decide) rfl ?_
  exact r_zret C rfl rfl (by decide) (by decide) dX6_isVoid_17 ⟨rfl, rfl⟩

def gross9 (x : Int32) (v : Int64) (ff : Nat → Int64) : Int64 := if x = nI 3 then v else ff 3
def tare9 (x : Int32) (v : Int64) (ff : Nat → Int64) : Int64 := if x = nI 4 then v else ff 4
set_option maxHeartbeats 4000000 in
set_option maxRecDepth 20000 in
theorem c_kn_y {l : Launch} {g : cx_G} {w : wd_T} {a t af aw : Nat} {ff : Nat → Int64} (h0 : w t = some (a, ob 6 [.ref af, .ref aw])) (h1 : w (t + 1) = some (af, aL g 9 ff)) {x : Int32} {v : Int64} (hv : tare9 x v ff ≤ gross9 x v ff) : Mt l g yX6_keepsNet cX6_keepsNet 8 (some .boolean) 0 0 0 w [.ref a, .int x, .long v] (fun v9 w' => v9 = some (.int (nI 1)) ∧ w = w') := by
  refine mt_of RX6 "keepsNet" rfl rfl (by decide) (Nat.le_of_ble_eq_true rfl) [(0, .ref a), (1, .int x), (2, .long v)] rfl ?_
  intro k hkl C hin
  subst hkl
  have fin : ∀ lv9 : List (Nat × Value), lv9 = [(6, .long (tare9 x v ff)), (4, .long (gross9 x v ff)), (0, .ref a), (1, .int x), (2, .long v)] → V g k 8 w 0 0 (kQ g k (fun v9 w' => v9 = some (.int (nI 1)) ∧ w = w') 0 0) 34 lv9 [] := by
    intro lv9 h9; subst h9
    refine r_lload C 1 dX6_keepsNet_34 rfl rfl ?_
    refine r_lload C 0 dX6_keepsNet_36 rfl rfl ?_
    refine r_lcmp_lt (tgt := 46) C dX6_keepsNet_38 rfl dX6_keepsNet_39 (by decide) rfl (fun hz1 => absurd (Int64.not_lt.mpr hv) (by first | exact hz1 | exact fun zz => zz hz1)) (fun _ => ?_)
    refine r_iconst C (nI 1) dX6_keepsNet_42 (by decide) rfl ?_
    refine r_goto (tgt := 47) C dX6_keepsNet_43 (by decide) ?_
    exact r_zret C rfl rfl (by decide) (by decide) dX6_keepsNet_47 ⟨rfl, rfl⟩
  refine r_iload_n C 1 dX6_keepsNet_0 rfl rfl ?_
  refine r_iconst C (nI 3) dX6_keepsNet_1 (by decide) rfl ?_
  refine r_icmp_ne (tgt := 9) C dX6_keepsNet_2 (by decide) rfl (fun hc1 => ?_) (fun hc1 => ?_)
  · refine r_aload_n C 0 dX6_keepsNet_9 rfl rfl ?_
    refine r_get (t := t) C koX6 h0 0 (by decide) q295 rfl rfl dX6_keepsNet_10 rfl ?_
    refine r_iconst C (nI 3) dX6_keepsNet_13 (by decide) rfl ?_
    refine r_lald (t := (t + 1)) C h1 3 rfl (by decide) (by decide) dX6_keepsNet_14 rfl ?_
    refine r_lstore (lv' := [(4, .long (ff 3)), (0, .ref a), (1, .int x), (2, .long v)]) C dX6_keepsNet_15 (by decide) rfl rfl ?_
    refine r_iload_n C 2 dX6_keepsNet_17 rfl rfl ?_
    refine r_iconst C (nI 4) dX6_keepsNet_18 (by decide) rfl ?_
    refine r_icmp_ne (tgt := 26) C dX6_keepsNet_19 (by decide) rfl (fun hc3 => ?_) (fun hc3 => ?_)
    · refine r_aload_n C 1 dX6_keepsNet_26 rfl rfl ?_
      refine r_get (t := t) C koX6 h0 0 (by decide) q295 rfl rfl dX6_keepsNet_27 rfl ?_
      refine r_iconst C (nI 4) dX6_keepsNet_30 (by decide) rfl ?_
      refine r_lald (t := (t + 1)) C h1 4 rfl (by decide) (by decide) dX6_keepsNet_31 rfl ?_
      refine r_lstore (lv' := [(6, .long (ff 4)), (4, .long (ff 3)), (0, .ref a), (1, .int x), (2, .long v)]) C dX6_keepsNet_32 (by decide) rfl rfl ?_
      refine r_sub (lv' := [(6, .long (ff 4)), (4, .long (ff 3)), (0, .ref a), (1, .int x), (2, .long v)]) [0, 1, 2, 3, 4] rfl ?_
      refine fin _ ?_
      unfold tare9 gross9; rw [if_neg hc1, if_neg hc3]
    · refine r_lload_n C 3 dX6_keepsNet_22 rfl rfl ?_
      refine r_goto (tgt := 32) C dX6_keepsNet_23 (by decide) ?_
      refine r_lstore (lv' := [(6, .long v), (4, .long (ff 3)), (0, .ref a), (1, .int x), (2, .long v)]) C dX6_keepsNet_32 (by decide) rfl rfl ?_
      refine r_sub (lv' := [(6, .long v), (4, .long (ff 3)), (0, .ref a), (1, .int x), (2, .long v)]) [0, 1, 2, 3, 4] rfl ?_
      refine fin _ ?_
      unfold tare9 gross9; rw [if_neg hc1, if_pos hc3]
  · refine r_lload_n C 2 dX6_keepsNet_5 rfl rfl ?_
    refine r_goto (tgt := 15) C dX6_keepsNet_6 (by decide) ?_
    refine r_lstore (lv' := [(4, .long v), (0, .ref a), (1, .int x), (2, .long v)]) C dX6_keepsNet_15 (by decide) rfl rfl ?_
    refine r_iload_n C 2 dX6_keepsNet_17 rfl rfl ?_
    refine r_iconst C (nI 4) dX6_keepsNet_18 (by decide) rfl ?_
    refine r_icmp_ne (tgt := 26) C dX6_keepsNet_19 (by decide) rfl (fun hc7 => ?_) (fun hc7 => ?_)
    · refine r_aload_n C 1 dX6_keepsNet_26 rfl rfl ?_
      refine r_get (t := t) C koX6 h0 0 (by decide) q295 rfl rfl dX6_keepsNet_27 rfl ?_
      refine r_iconst C (nI 4) dX6_keepsNet_30 (by decide) rfl ?_
      refine r_lald (t := (t + 1)) C h1 4 rfl (by decide) (by decide) dX6_keepsNet_31 rfl ?_
      refine r_lstore (lv' := [(6, .long (ff 4)), (4, .long v), (0, .ref a), (1, .int x), (2, .long v)]) C dX6_keepsNet_32 (by decide) rfl rfl ?_
      refine r_sub (lv' := [(6, .long (ff 4)), (4, .long v), (0, .ref a), (1, .int x), (2, .long v)]) [0, 1, 2, 3, 4] rfl ?_
      refine fin _ ?_
      unfold tare9 gross9; rw [if_pos hc1, if_neg hc7]
    · refine r_lload_n C 3 dX6_keepsNet_22 rfl rfl ?_
      refine r_goto (tgt := 32) C dX6_keepsNet_23 (by decide) ?_
      refine r_lstore (lv' := [(6, .long v), (4, .long v), (0, .ref a), (1, .int x), (2, .long v)]) C dX6_keepsNet_32 (by decide) rfl rfl ?_
      refine r_sub (lv' := [(6, .long v), (4, .long v), (0, .ref a), (1, .int x), (2, .long v)]) [0, 1, 2, 3, 4] rfl ?_
      refine fin _ ?_
      unfold tare9 gross9; rw [if_pos hc1, if_pos hc7]

set_option maxHeartbeats 4000000 in
set_option maxRecDepth 20000 in
theorem c_kn_n {l : Launch} {g : cx_G} {w : wd_T} {a t af aw : Nat} {ff : Nat → Int64} (h0 : w t = some (a, ob 6 [.ref af, .ref aw])) (h1 : w (t + 1) = some (af, aL g 9 ff)) {x : Int32} {v : Int64} (hv : ¬ tare9 x v ff ≤ gross9 x v ff) : Mt l g yX6_keepsNet cX6_keepsNet 8 (some .boolean) 0 0 0 w [.ref a, .int x, .long v] (fun v9 w' => v9 = some (.int (nI 0)) ∧ w = w') := by
  refine mt_of RX6 "keepsNet" rfl rfl (by decide) (Nat.le_of_ble_eq_true rfl) [(0, .ref a), (1, .int x), (2, .long v)] rfl ?_
  intro k hkl C hin
  subst hkl
  have fin : ∀ lv9 : List (Nat × Value), lv9 = [(6, .long (tare9 x v ff)), (4, .long (gross9 x v ff)), (0, .ref a), (1, .int x), (2, .long v)] → V g k 8 w 0 0 (kQ g k (fun v9 w' => v9 = some (.int (nI 0)) ∧ w = w') 0 0) 34 lv9 [] := by
    intro lv9 h9; subst h9
    refine r_lload C 1 dX6_keepsNet_34 rfl rfl ?_
    refine r_lload C 0 dX6_keepsNet_36 rfl rfl ?_
    refine r_lcmp_lt (tgt := 46) C dX6_keepsNet_38 rfl dX6_keepsNet_39 (by decide) rfl (fun _ => ?_) (fun hz1 => absurd (Int64.not_le.mp hv) (by first | exact hz1 | exact fun zz => zz hz1))
    refine r_iconst C (nI 0) dX6_keepsNet_46 (by decide) rfl ?_
    exact r_zret C rfl rfl (by decide) (by decide) dX6_keepsNet_47 ⟨rfl, rfl⟩
  refine r_iload_n C 1 dX6_keepsNet_0 rfl rfl ?_
  refine r_iconst C (nI 3) dX6_keepsNet_1 (by decide) rfl ?_
  refine r_icmp_ne (tgt := 9) C dX6_keepsNet_2 (by decide) rfl (fun hc1 => ?_) (fun hc1 => ?_)
  · refine r_aload_n C 0 dX6_keepsNet_9 rfl rfl ?_
    refine r_get (t := t) C koX6 h0 0 (by decide) q295 rfl rfl dX6_keepsNet_10 rfl ?_
    refine r_iconst C (nI 3) dX6_keepsNet_13 (by decide) rfl ?_
    refine r_lald (t := (t + 1)) C h1 3 rfl (by decide) (by decide) dX6_keepsNet_14 rfl ?_
    refine r_lstore (lv' := [(4, .long (ff 3)), (0, .ref a), (1, .int x), (2, .long v)]) C dX6_keepsNet_15 (by decide) rfl rfl ?_
    refine r_iload_n C 2 dX6_keepsNet_17 rfl rfl ?_
    refine r_iconst C (nI 4) dX6_keepsNet_18 (by decide) rfl ?_
    refine r_icmp_ne (tgt := 26) C dX6_keepsNet_19 (by decide) rfl (fun hc3 => ?_) (fun hc3 => ?_)
    · refine r_aload_n C 1 dX6_keepsNet_26 rfl rfl ?_
      refine r_get (t := t) C koX6 h0 0 (by decide) q295 rfl rfl dX6_keepsNet_27 rfl ?_
      refine r_iconst C (nI 4) dX6_keepsNet_30 (by decide) rfl ?_
      refine r_lald (t := (t + 1)) C h1 4 rfl (by decide) (by decide) dX6_keepsNet_31 rfl ?_
      refine r_lstore (lv' := [(6, .long (ff 4)), (4, .long (ff 3)), (0, .ref a), (1, .int x), (2, .long v)]) C dX6_keepsNet_32 (by decide) rfl rfl ?_
      refine r_sub (lv' := [(6, .long (ff 4)), (4, .long (ff 3)), (0, .ref a), (1, .int x), (2, .long v)]) [0, 1, 2, 3, 4] rfl ?_
      refine fin _ ?_
      unfold tare9 gross9; rw [if_neg hc1, if_neg hc3]
    · refine r_lload_n C 3 dX6_keepsNet_22 rfl rfl ?_
      refine r_goto (tgt := 32) C dX6_keepsNet_23 (by decide) ?_
      refine r_lstore (lv' := [(6, .long v), (4, .long (ff 3)), (0, .ref a), (1, .int x), (2, .long v)]) C dX6_keepsNet_32 (by decide) rfl rfl ?_
      refine r_sub (lv' := [(6, .long v), (4, .long (ff 3)), (0, .ref a), (1, .int x), (2, .long v)]) [0, 1, 2, 3, 4] rfl ?_
      refine fin _ ?_
      unfold tare9 gross9; rw [if_neg hc1, if_pos hc3]
  · refine r_lload_n C 2 dX6_keepsNet_5 rfl rfl ?_
    refine r_goto (tgt := 15) C dX6_keepsNet_6 (by decide) ?_
    refine r_lstore (lv' := [(4, .long v), (0, .ref a), (1, .int x), (2, .long v)]) C dX6_keepsNet_15 (by decide) rfl rfl ?_
    refine r_iload_n C 2 dX6_keepsNet_17 rfl rfl ?_
    refine r_iconst C (nI 4) dX6_keepsNet_18 (by decide) rfl ?_
    refine r_icmp_ne (tgt := 26) C dX6_keepsNet_19 (by decide) rfl (fun hc7 => ?_) (fun hc7 => ?_)
    · refine r_aload_n C 1 dX6_keepsNet_26 rfl rfl ?_
      refine r_get (t := t) C koX6 h0 0 (by decide) q295 rfl rfl dX6_keepsNet_27 rfl ?_
      refine r_iconst C (nI 4) dX6_keepsNet_30 (by decide) rfl ?_
      refine r_lald (t := (t + 1)) C h1 4 rfl (by decide) (by decide) dX6_keepsNet_31 rfl ?_
      refine r_lstore (lv' := [(6, .long (ff 4)), (4, .long v), (0, .ref a), (1, .int x), (2, .long v)]) C dX6_keepsNet_32 (by decide) rfl rfl ?_
      refine r_sub (lv' := [(6, .long (ff 4)), (4, .long v), (0, .ref a), (1, .int x), (2, .long v)]) [0, 1, 2, 3, 4] rfl ?_
      refine fin _ ?_
      unfold tare9 gross9; rw [if_pos hc1, if_neg hc7]
    · refine r_lload_n C 3 dX6_keepsNet_22 rfl rfl ?_
      refine r_goto (tgt := 32) C dX6_keepsNet_23 (by decide) ?_
      refine r_lstore (lv' := [(6, .long v), (4, .long v), (0, .ref a), (1, .int x), (2, .long v)]) C dX6_keepsNet_32 (by decide) rfl rfl ?_
      refine r_sub (lv' := [(6, .long v), (4, .long v), (0, .ref a), (1, .int x), (2, .long v)]) [0, 1, 2, 3, 4] rfl ?_
      refine fin _ ?_
      unfold tare9 gross9; rw [if_pos hc1, if_pos hc7]
