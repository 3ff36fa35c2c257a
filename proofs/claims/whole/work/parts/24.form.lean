/-! Form -/
def chB (c : Nat) : Int32 := (nI c).toInt8.toInt32
/-- the decimal digits of v, from place r - 1 on; b: a digit was laid before -/
def dgs : Nat → Nat → Nat → List Int32
  | 0, _, _ => []
  | r + 1, v, b => if ¬ b = 0 ∨ 0 < (v / 10 ^ r) % 10 ∨ r = 0 then chB (48 + (v / 10 ^ r) % 10) :: dgs r v 1 else dgs r v 0
theorem dgs_y {r v b : Nat} (h : ¬ b = 0 ∨ 0 < (v / 10 ^ r) % 10 ∨ r = 0) : dgs (r + 1) v b = chB (48 + (v / 10 ^ r) % 10) :: dgs r v 1 := if_pos h
theorem dgs_n {r v b : Nat} (h : ¬ (¬ b = 0 ∨ 0 < (v / 10 ^ r) % 10 ∨ r = 0)) : dgs (r + 1) v b = dgs r v 0 := if_neg h
theorem dgs_len1 {v : Nat} : ∀ r b, (dgs r v b).length ≤ r
  | 0, _ => Nat.le_refl 0
  | r + 1, b => by
    by_cases h : ¬ b = 0 ∨ 0 < (v / 10 ^ r) % 10 ∨ r = 0
    · rw [dgs_y h, List.length_cons]; exact Nat.succ_le_succ (dgs_len1 r 1)
    · rw [dgs_n h]; exact Nat.le_succ_of_le (dgs_len1 r 0)
theorem dgs_0 {r v : Nat} (h : v < 10 ^ r) (hr : ¬ r = 0) : dgs (r + 1) v 0 = dgs r v 0 := by
  apply dgs_n
  rw [Nat.div_eq_of_lt h]
  omega
theorem dgs_len {v m : Nat} (hm : 1 ≤ m) (hv : v < 10 ^ m) : ∀ r, (dgs r v 0).length ≤ m
  | 0 => Nat.zero_le _
  | r + 1 => by
    rcases Nat.lt_or_ge r m with h | h
    · exact Nat.le_trans (dgs_len1 (r + 1) 0) h
    · rw [dgs_0 (Nat.lt_of_lt_of_le hv (Nat.pow_le_pow_right (by decide) h)) (by omega)]
      exact dgs_len hm hv r
theorem p10_1 {r : Nat} (h : 10 ^ r = 1) : r = 0 := by
  cases r with
  | zero => rfl
  | succ r =>
    have : 0 < 10 ^ r := Nat.pow_pos (by decide)
    rw [Nat.pow_succ] at h
    omega
theorem p10_b {r : Nat} (h : r ≤ 9) : 10 ^ r ≤ 1000000000 := Nat.le_trans (Nat.pow_le_pow_right (by decide) h) (by decide)
theorem p10_d {r : Nat} : 10 ^ (r + 1) / 10 = 10 ^ r := by
  rw [Nat.pow_succ]
  exact Nat.mul_div_cancel _ (by decide)
/-- fields 0 .. i - 1, with blanks between them -/
def fmB (vn : Nat → Nat) : Nat → List Int32
  | 0 => []
  | i + 1 => (if 0 < i then fmB vn i ++ [chB 32] else fmB vn i) ++ dgs 10 (vn i) 0
def vdB : Nat → List Int32
  | 0 => []
  | i + 1 => vdB i ++ [chB (kVc i)]
def fmT (vn : Nat → Nat) : List Int32 := if vn 8 = 0 then fmB vn 8 else fmB vn 8 ++ vdB 6 ++ dgs 10 (vn 8) 0
def wd9 (i : Nat) : Nat := [3, 2, 1, 10, 10, 10, 10, 3, 2].getD i 0
/-- what all nine are below; the net is the gross less the tare -/
def Fb9 (vn : Nat → Nat) : Prop := (∀ i, i < 9 → vn i < 10 ^ wd9 i) ∧ vn 3 ≤ 1000000000 ∧ vn 3 = vn 4 + vn 5
def lnA : Nat → Nat
  | 0 => 0
  | i + 1 => lnA i + (if 0 < i then 1 else 0) + wd9 i
/-- the longest that fields 0 .. i - 1 can be: gross, tare and net have 28 digits at most -/
def ln9 (i : Nat) : Nat := if i < 6 then lnA i else lnA i - 2
theorem ln9_le : ∀ i, i < 9 → ln9 i ≤ 54 := by decide
theorem wd9_1 : ∀ i, i < 9 → 1 ≤ wd9 i := by decide
theorem fmB_lenA {vn : Nat → Nat} (h : ∀ i, i < 9 → vn i < 10 ^ wd9 i) : ∀ i, i < 9 → (fmB vn i).length ≤ lnA i
  | 0, _ => Nat.le_refl 0
  | i + 1, hi => by
    have h1 := fmB_lenA h i (by omega)
    have h2 := dgs_len (wd9_1 i (by omega)) (h i (by omega)) 10
    rw [fmB, lnA, List.length_append]
    split
    · rw [List.length_append, List.length_singleton]; omega
    · omega
/-- gross, tare and net: at most 28 digits -/
theorem dgs_28 {a b c : Nat} (h0 : a ≤ 1000000000) (h1 : a = b + c) : (dgs 10 a 0).length + (dgs 10 b 0).length + (dgs 10 c 0).length ≤ 28 := by
  have ha : (dgs 10 a 0).length ≤ 10 := dgs_len (by decide) (Nat.lt_of_le_of_lt h0 (by decide)) 10
  rcases Nat.lt_or_ge b 1000000000 with zb | zb
  · have hb : (dgs 10 b 0).length ≤ 9 := dgs_len (by decide) (Nat.lt_of_lt_of_le zb (by decide)) 10
    rcases Nat.lt_or_ge c 1000000000 with zc | zc
    · have hc : (dgs 10 c 0).length ≤ 9 := dgs_len (by decide) (Nat.lt_of_lt_of_le zc (by decide)) 10
      omega
    · obtain rfl : b = 0 := by omega
      have hb1 : (dgs 10 0 0).length ≤ 1 := dgs_len (by decide) (by decide) 10
      have hc : (dgs 10 c 0).length ≤ 10 := dgs_len (by decide) (Nat.lt_of_le_of_lt (show c ≤ 1000000000 by omega) (by decide)) 10
      omega
  · obtain rfl : c = 0 := by omega
    have hc : (dgs 10 0 0).length ≤ 1 := dgs_len (by decide) (by decide) 10
    have hb : (dgs 10 b 0).length ≤ 10 := dgs_len (by decide) (Nat.lt_of_le_of_lt (show b ≤ 1000000000 by omega) (by decide)) 10
    omega
theorem fmB_s {vn : Nat → Nat} {i : Nat} (h : 0 < i) : (fmB vn (i + 1)).length = (fmB vn i).length + 1 + (dgs 10 (vn i) 0).length := by
  rw [fmB, if_pos h, List.length_append, List.length_append, List.length_singleton]
theorem fmB_len {vn : Nat → Nat} (h : Fb9 vn) (i : Nat) (hi : i < 9) : (fmB vn i).length ≤ ln9 i := by
  have l3 := fmB_lenA h.1 3 (by decide)
  have s3 : (fmB vn 4).length = (fmB vn 3).length + 1 + (dgs 10 (vn 3) 0).length := fmB_s (by decide)
  have s4 : (fmB vn 5).length = (fmB vn 4).length + 1 + (dgs 10 (vn 4) 0).length := fmB_s (by decide)
  have s5 : (fmB vn 6).length = (fmB vn 5).length + 1 + (dgs 10 (vn 5) 0).length := fmB_s (by decide)
  have s6 : (fmB vn 7).length = (fmB vn 6).length + 1 + (dgs 10 (vn 6) 0).length := fmB_s (by decide)
  have s7 : (fmB vn 8).length = (fmB vn 7).length + 1 + (dgs 10 (vn 7) 0).length := fmB_s (by decide)
  have d6 := dgs_len (wd9_1 6 (by decide)) (h.1 6 (by decide)) 10
  have d7 := dgs_len (wd9_1 7 (by decide)) (h.1 7 (by decide)) 10
  have d28 := dgs_28 h.2.1 h.2.2
  have e3 : lnA 3 = 8 := rfl
  have e6 : ln9 6 = 39 := rfl
  have e7 : ln9 7 = 50 := rfl
  have e8 : ln9 8 = 54 := rfl
  have w6 : wd9 6 = 10 := rfl
  have w7 : wd9 7 = 3 := rfl
  by_cases z : i < 6
  · have := fmB_lenA h.1 i hi
    have e : ln9 i = lnA i := if_pos z
    omega
  · rcases (show i = 6 ∨ i = 7 ∨ i = 8 by omega) with rfl | rfl | rfl
    · omega
    · omega
    · omega
theorem vdB_len : ∀ i, (vdB i).length = i
  | 0 => rfl
  | i + 1 => by rw [vdB, List.length_append, vdB_len i]; rfl
theorem fmT_len {vn : Nat → Nat} (h : Fb9 vn) : (fmT vn).length ≤ 62 := by
  have h1 := fmB_len h 8 (by decide)
  have h2 := dgs_len (wd9_1 8 (by decide)) (h.1 8 (by decide)) 10
  have h3 := ln9_le 8 (by decide)
  have h4 : wd9 8 = 2 := rfl
  unfold fmT
  split
  · omega
  · rw [List.length_append, List.length_append, vdB_len]; omega
/-- a buffer's letters are a text's -/
def tx9 (f : Nat → Int32) (T : List Int32) : Prop := ∀ j, j < T.length → T[j]? = some (f j)
theorem tx9_push {f : Nat → Int32} {T : List Int32} {x : Int32} (h : tx9 f T) : tx9 (upd f T.length x) (T ++ [x]) := by
  intro j hj
  rw [List.length_append, List.length_singleton] at hj
  by_cases z : j = T.length
  · subst z
    rw [pk_us, List.getElem?_append_right (Nat.le_refl _), Nat.sub_self]
    rfl
  · rw [pk_un z, List.getElem?_append_left (by omega), h j (by omega)]
def FmAt (g : cx_G) (w : wd_T) (af asg : Nat) (T : List Int32) : Prop := ∃ f : Nat → Int32, w 115 = some (af, ob 1 [.ref asg, .int (nI T.length)]) ∧ w 116 = some (asg, aB g 62 f) ∧ tx9 f T
theorem FmAt.kept {g : cx_G} {w w' : wd_T} {af asg : Nat} {T : List Int32} (h : FmAt g w af asg T) (e0 : w' 115 = w 115) (e1 : w' 116 = w 116) : FmAt g w' af asg T := by
  obtain ⟨f, h0, h1, h2⟩ := h
  exact ⟨f, e0.trans h0, e1.trans h1, h2⟩
theorem ap_3 {A : List Int32} {x : Int32} {B C : List Int32} (h : A ++ (x :: B) = C) : (A ++ [x]) ++ B = C := by
  rw [List.append_assoc]
  exact h
theorem ap_l {A B : List Int32} {x : Int32} : (A ++ [x]).length + B.length = A.length + (x :: B).length := by
  simp only [List.length_append, List.length_cons, List.length_nil]
  omega
set_option maxHeartbeats 4000000 in
set_option maxRecDepth 20000 in
theorem c_FormInit {l : Launch} {g : cx_G} {w : wd_T} {af : Nat} (h0 : w 115 = some (af, ob 1 [.null, .int 0])) : Mt l g yX1_init cX1_init 1 none 1 1 62 w [.ref af] (fun v w' => v = none ∧ (∃ asg, FmAt g w' af asg []) ∧ Fr w w' 115 117) := by
  refine mt_of RX1 "<init>" rfl rfl (by decide) (Nat.le_of_ble_eq_true rfl) [(0, .ref af)] rfl ?_
  intro k hkl C hin
  subst hkl
  refine r_aload_n (q := 1) C 0 dX1_init_0 rfl rfl ?_
  refine r_objI (q := 4) C q117 q33 q34 (by decide) (Nat.le_of_ble_eq_true rfl) dX1_init_1 rfl ?_
  refine r_aload_n (q := 5) C 0 dX1_init_4 rfl rfl ?_
  refine r_bipush (q := 7) C (nI 62) dX1_init_5 (by decide) rfl ?_
  refine r_newb (q := 9) C 62 rfl (by decide) q101 116 (by decide) (by decide) dX1_init_7 rfl (fun asg => ?_)
  refine r_putF (q := 12) (t := 115) (w' := wd_set (wd_set w 116 asg (aB g 62 (fun _ => 0))) 115 af (ob 1 [.ref asg, .int 0])) C koX1 ((wd_ne (by decide)).trans h0) 0 (by decide) q118 rfl rfl hin rfl rfl rfl (Nat.le_of_ble_eq_true rfl) dX1_init_9 rfl rfl ?_
  refine r_aload_n (q := 13) C 0 dX1_init_12 rfl rfl ?_
  refine r_iconst (q := 14) C (nI 0) dX1_init_13 (by decide) rfl ?_
  refine r_put (q := 17) (t := 115) (w' := wd_set (wd_set w 116 asg (aB g 62 (fun _ => 0))) 115 af (ob 1 [.ref asg, .int (nI 0)])) C koX1 wd_eq 1 (by decide) q119 rfl rfl rfl rfl (Nat.le_of_ble_eq_true rfl) dX1_init_14 rfl wd_ss ?_
  refine r_vret C rfl (by decide) (by decide) dX1_init_17 ⟨rfl, ⟨asg, _, wd_eq, ((wd_ne (by decide)).trans wd_eq), fun j hj => absurd hj (Nat.not_lt_zero j)⟩, fun u hu => ?_⟩
  simp only [wd_set]
  rw [if_neg (by omega), if_neg (by omega)]

set_option maxHeartbeats 4000000 in
set_option maxRecDepth 20000 in
theorem c_fadd {l : Launch} {g : cx_G} {w : wd_T} {af asg : Nat} {T : List Int32} (hF : FmAt g w af asg T) {x : Int32} (hl : T.length < 62) : Mt l g yX1_add cX1_add 2 none 0 0 0 w [.ref af, .int x] (fun v w' => v = none ∧ FmAt g w' af asg (T ++ [x.toInt8.toInt32]) ∧ Fr w w' 115 117) := by
  refine mt_of RX1 "add" rfl rfl (by decide) (Nat.le_of_ble_eq_true rfl) [(0, .ref af), (1, .int x)] rfl ?_
  intro k hkl C hin
  subst hkl
  obtain ⟨f1, f0, f2, f3⟩ := hF
  refine r_aload_n (q := 1) C 0 dX1_add_0 rfl rfl ?_
  refine r_get (q := 4) (t := 115) C koX1 f0 1 (by decide) q119 rfl rfl dX1_add_1 rfl ?_
  refine r_aload_n (q := 5) C 0 dX1_add_4 rfl rfl ?_
  refine r_get (q := 8) (t := 115) C koX1 f0 0 (by decide) q118 rfl rfl dX1_add_5 rfl ?_
  refine r_blen (q := 9) (t := 116) C f2 dX1_add_8 rfl ?_
  refine r_icmp_ge_f (q := 12) (tgt := 33) C dX1_add_9 (by decide) rfl (fun z => absurd ((nI_leI (a := 62) (b := T.length) (by omega) (by omega)).mp z) (by omega)) ?_
  refine r_aload_n (q := 13) C 0 dX1_add_12 rfl rfl ?_
  refine r_get (q := 16) (t := 115) C koX1 f0 0 (by decide) q118 rfl rfl dX1_add_13 rfl ?_
  refine r_aload_n (q := 17) C 0 dX1_add_16 rfl rfl ?_
  refine r_get (q := 20) (t := 115) C koX1 f0 1 (by decide) q119 rfl rfl dX1_add_17 rfl ?_
  refine r_iload_n (q := 21) C 1 dX1_add_20 rfl rfl ?_
  refine r_i2b (q := 22) C dX1_add_21 rfl ?_
  refine r_bast8 (q := 23) (t := 116) (w' := wd_set w 116 asg (aB g 62 (upd f1 T.length x.toInt8.toInt32))) C f2 T.length rfl (by omega) (by decide) dX1_add_22 rfl rfl ?_
  refine r_aload_n (q := 24) C 0 dX1_add_23 rfl rfl ?_
  refine r_dup (q := 25) C dX1_add_24 rfl rfl ?_
  refine r_get (q := 28) (t := 115) C koX1 ((wd_ne (by decide)).trans f0) 1 (by decide) q119 rfl rfl dX1_add_25 rfl ?_
  refine r_iconst (q := 29) C (nI 1) dX1_add_28 (by decide) rfl ?_
  refine r_iadd (q := 30) C dX1_add_29 rfl ?_
  refine r_ti (show ((nI T.length) + (nI 1) : Int32) = nI (T.length + 1) from nI_add T.length 1) ?_
  refine r_put (q := 33) (t := 115) (w' := wd_set (wd_set w 116 asg (aB g 62 (upd f1 T.length x.toInt8.toInt32))) 115 af (ob 1 [.ref asg, .int (nI (T.length + 1))])) C koX1 ((wd_ne (by decide)).trans f0) 1 (by decide) q119 rfl rfl rfl rfl (Nat.le_of_ble_eq_true rfl) dX1_add_30 rfl rfl ?_
  refine r_vret C rfl (by decide) (by decide) dX1_add_33 ⟨rfl, ⟨_, ?_, ((wd_ne (by decide)).trans wd_eq), tx9_push f3⟩, (Fr.set (by decide) (by decide)).trans (Fr.set (by decide) (by decide))⟩
  rw [List.length_append]
  exact wd_eq

set_option maxHeartbeats 4000000 in
set_option maxRecDepth 20000 in
theorem c_addD {l : Launch} {g : cx_G} {w : wd_T} {af asg : Nat} {T : List Int32} (hF : FmAt g w af asg T) {v : Nat} (hv : v < 10000000000) (hl : T.length + (dgs 10 v 0).length ≤ 62) : Mt l g yX1_addDecimals cX1_addDecimals 7 none 1 0 0 w [.ref af, .long (lN v)] (fun v9 w' => v9 = none ∧ FmAt g w' af asg (T ++ dgs 10 v 0) ∧ Fr w w' 115 117) := by
  refine mt_of RX1 "addDecimals" rfl rfl (by decide) (Nat.le_of_ble_eq_true rfl) [(0, .ref af), (1, .long (lN v))] rfl ?_
  intro k hkl C hin
  subst hkl
  refine r_iconst (q := 1) C (nI 0) dX1_addDecimals_0 (by decide) rfl ?_
  refine r_istore_n (q := 2) (lv' := [(3, .int (nI 0)), (0, .ref af), (1, .long (lN v))]) C dX1_addDecimals_1 (by decide) rfl rfl ?_
  refine r_ldc2 (q := 5) (v := lN 1000000000) C dX1_addDecimals_2 q497 rfl ?_
  refine r_lstore (q := 7) (lv' := [(4, .long (lN 1000000000)), (3, .int (nI 0)), (0, .ref af), (1, .long (lN v))]) C dX1_addDecimals_5 (by decide) rfl rfl ?_
  refine r_sub (lv' := [(3, .int (nI 0)), (4, .long (lN 1000000000)), (0, .ref af), (1, .long (lN v))]) [1, 0, 2, 3] rfl ?_
  have loop : ∀ (r i : Nat) (b : Nat) (T1 : List Int32) (w1 : wd_T), i + r = 10 → (FmAt g w1 af asg T1) → (T1.length + (dgs r v b).length ≤ 62) → (T1 ++ dgs r v b = T ++ dgs 10 v 0) → (b ≤ 1) → (Fr w w1 115 117) → V g k 7 w1 0 0 (kQ g k (fun v9 w' => v9 = none ∧ FmAt g w' af asg (T ++ dgs 10 v 0) ∧ Fr w w' 115 117) 0 0) 7 [(3, .int (nI b)), (4, .long (lN (10 ^ r / 10))), (0, .ref af), (1, .long (lN v))] [] := by
    intro r
    induction r with
    | zero =>
      intro i b T1 w1 hi hF1 hl1 hT hb1 hf1
      show V g k 7 w1 0 0 (kQ g k (fun v9 w' => v9 = none ∧ FmAt g w' af asg (T ++ dgs 10 v 0) ∧ Fr w w' 115 117) 0 0) 7 [(3, .int (nI b)), (4, .long (lN 0)), (0, .ref af), (1, .long (lN v))] []
      refine r_lload (q := 9) C 1 dX1_addDecimals_7 rfl rfl ?_
      refine r_lconst (q := 10) C (lN 0) dX1_addDecimals_9 (by decide) rfl ?_
      refine r_lcmp_le (q := 11) (q2 := 14) (tgt := 72) C dX1_addDecimals_10 rfl dX1_addDecimals_11 (by decide) rfl (fun _ => ?_) (fun hz1 => absurd ((pk_lLE (a := 0) (b := 0) (by omega) (by omega)).mpr (by omega)) (by first | exact hz1 | exact fun zz => zz hz1))
      exact r_vret C rfl (by decide) (by decide) dX1_addDecimals_72 ⟨rfl, by rw [← hT, dgs, List.append_nil]; exact hF1, hf1⟩
    | succ r ih =>
      intro i b T1 w1 hi hF1 hl1 hT hb1 hf1
      rw [p10_d]
      obtain ⟨u9, hu⟩ : ∃ u9, u9 = 10 ^ r := ⟨_, rfl⟩
      have hu1 : 0 < u9 := by rw [hu]; exact Nat.pow_pos (by decide)
      have hu2 : u9 ≤ 1000000000 := by rw [hu]; exact p10_b (by omega)
      have hd : v / u9 ≤ v := Nat.div_le_self _ _
      rw [← hu]
      refine r_lload (q := 9) C 1 dX1_addDecimals_7 rfl rfl ?_
      refine r_lconst (q := 10) C (lN 0) dX1_addDecimals_9 (by decide) rfl ?_
      refine r_lcmp_le (q := 11) (q2 := 14) (tgt := 72) C dX1_addDecimals_10 rfl dX1_addDecimals_11 (by decide) rfl (fun hz3 => absurd (fun z => absurd ((pk_lLE (a := u9) (b := 0) (by omega) (by omega)).mp z) (by omega)) (by first | exact hz3 | exact fun zz => zz hz3)) (fun _ => ?_)
      refine r_lload_n (q := 15) C 3 dX1_addDecimals_14 rfl rfl ?_
      refine r_lload (q := 17) C 1 dX1_addDecimals_15 rfl rfl ?_
      refine r_ldiv (q := 18) C dX1_addDecimals_17 (fun z => absurd ((pk_lEQ (a := u9) (b := 0) (by omega) (by omega)).mp z) (by omega)) rfl ?_
      refine r_tl (show ((lN v) / (lN u9) : Int64) = lN (v / u9) from pk_lDiv (by omega) (by omega) (by omega)) ?_
      refine r_ldc2 (q := 21) (v := lN 10) C dX1_addDecimals_18 q498 rfl ?_
      refine r_lrem (q := 22) C dX1_addDecimals_21 (by decide) rfl ?_
      refine r_tl (show ((lN (v / u9)) - (lN (v / u9)) / (lN 10) * (lN 10) : Int64) = lN ((v / u9) % 10) from pk_lRem (by omega) (by omega) (by omega)) ?_
      refine r_l2i (q := 23) C dX1_addDecimals_22 rfl ?_
      refine r_ti (show ((lN ((v / u9) % 10)).toInt32 : Int32) = nI ((v / u9) % 10) from lN_i ((v / u9) % 10)) ?_
      refine r_istore (q := 25) (lv' := [(6, .int (nI ((v / u9) % 10))), (3, .int (nI b)), (4, .long (lN u9)), (0, .ref af), (1, .long (lN v))]) C dX1_addDecimals_23 (by decide) rfl rfl ?_
      refine r_iload_n (q := 26) C 1 dX1_addDecimals_25 rfl rfl ?_
      refine r_if_ne (q := 29) (tgt := 41) C dX1_addDecimals_26 (by decide) rfl (fun hc4 => ?_) (fun hc4 => ?_)
      · have hc4 : ¬ b = 0 := fun z => hc4 ((nI_eq (a := b) (b := 0) (by omega) (by omega)).mpr z)
        have hc9 : ¬ b = 0 ∨ 0 < (v / u9) % 10 ∨ r = 0 := Or.inl hc4
        rw [dgs_y (by rw [← hu]; exact hc9), ← hu] at hT hl1
        refine r_iconst (q := 42) C (nI 1) dX1_addDecimals_41 (by decide) rfl ?_
        refine r_goto (tgt := 46) C dX1_addDecimals_42 (by decide) ?_
        refine r_istore_n (q := 47) (lv' := [(3, .int (nI 1)), (6, .int (nI ((v / u9) % 10))), (4, .long (lN u9)), (0, .ref af), (1, .long (lN v))]) C dX1_addDecimals_46 (by decide) rfl rfl ?_
        refine r_iload_n (q := 48) C 0 dX1_addDecimals_47 rfl rfl ?_
        refine r_if_eq_f (q := 51) (tgt := 61) C dX1_addDecimals_48 (by decide) rfl (by decide) ?_
        refine r_aload_n (q := 52) C 3 dX1_addDecimals_51 rfl rfl ?_
        refine r_bipush (q := 54) C (nI 48) dX1_addDecimals_52 (by decide) rfl ?_
        refine r_iload (q := 56) C 1 dX1_addDecimals_54 rfl rfl ?_
        refine r_iadd (q := 57) C dX1_addDecimals_56 rfl ?_
        refine r_ti (show ((nI 48) + (nI ((v / u9) % 10)) : Int32) = nI (48 + ((v / u9) % 10)) from nI_add 48 ((v / u9) % 10)) ?_
        refine r_i2c (q := 58) C dX1_addDecimals_57 rfl ?_
        refine r_ti (show (((nI (48 + ((v / u9) % 10))).toUInt32 % 65536).toInt32 : Int32) = nI (48 + (v / u9) % 10) from (sb_byte _ (by omega)).2.1) ?_
        obtain ⟨z6f, z60, z61, z62⟩ := id hF1
        refine r_callV (q := 61) (t := 115) (As := [.int (nI (48 + (v / u9) % 10))]) (st := []) C koX1 z60 (c_fadd hF1 (by rw [List.length_cons] at hl1; omega)) q491 q488 q490 qp12 q8 rfl ⟨by decide, by decide⟩ (show (parseMethodDescriptor yX1_add.desc).map (fun d => d.parameters.length) = some 1 by decide +kernel) (by decide) (by decide) (by decide) (by decide) (Nat.le_of_ble_eq_true rfl) rfl dX1_addDecimals_58 rfl ?_
        rintro v9 w2 ⟨rfl, hF2, ef2⟩
        show V g k 7 w2 0 0 (kQ g k (fun v9 w' => v9 = none ∧ FmAt g w' af asg (T ++ dgs 10 v 0) ∧ Fr w w' 115 117) 0 0) 61 [(3, .int (nI 1)), (6, .int (nI ((v / u9) % 10))), (4, .long (lN u9)), (0, .ref af), (1, .long (lN v))] []
        refine r_lload (q := 63) C 2 dX1_addDecimals_61 rfl rfl ?_
        refine r_ldc2 (q := 66) (v := lN 10) C dX1_addDecimals_63 q498 rfl ?_
        refine r_ldiv (q := 67) C dX1_addDecimals_66 (by decide) rfl ?_
        refine r_tl (show ((lN u9) / (lN 10) : Int64) = lN (u9 / 10) from pk_lDiv (by omega) (by omega) (by omega)) ?_
        refine r_lstore (q := 69) (lv' := [(4, .long (lN (u9 / 10))), (3, .int (nI 1)), (6, .int (nI ((v / u9) % 10))), (0, .ref af), (1, .long (lN v))]) C dX1_addDecimals_67 (by decide) rfl rfl ?_
        refine r_goto (tgt := 7) C dX1_addDecimals_69 (by decide) ?_
        refine r_sub (lv' := [(3, .int (nI 1)), (4, .long (lN (u9 / 10))), (0, .ref af), (1, .long (lN v))]) [1, 0, 3, 4] rfl ?_
        rw [hu]
        exact ih (i + 1) 1 _ w2 (by omega) hF2 (by rw [ap_l]; exact hl1) (ap_3 hT) (by decide) (hf1.trans ef2)
      · have hc4 : b = 0 := (nI_eq (a := b) (b := 0) (by omega) (by omega)).mp hc4
        refine r_iload (q := 31) C 0 dX1_addDecimals_29 rfl rfl ?_
        refine r_if_gt (q := 34) (tgt := 41) C dX1_addDecimals_31 (by decide) rfl (fun hc9 => ?_) (fun hc9 => ?_)
        · have hc9 : 0 < ((v / u9) % 10) := (nI_ltI (a := 0) (b := ((v / u9) % 10)) (by omega) (by omega)).mp hc9
          have hc9 : ¬ b = 0 ∨ 0 < (v / u9) % 10 ∨ r = 0 := Or.inr (Or.inl hc9)
          rw [dgs_y (by rw [← hu]; exact hc9), ← hu] at hT hl1
          refine r_iconst (q := 42) C (nI 1) dX1_addDecimals_41 (by decide) rfl ?_
          refine r_goto (tgt := 46) C dX1_addDecimals_42 (by decide) ?_
          refine r_istore_n (q := 47) (lv' := [(3, .int (nI 1)), (6, .int (nI ((v / u9) % 10))), (4, .long (lN u9)), (0, .ref af), (1, .long (lN v))]) C dX1_addDecimals_46 (by decide) rfl rfl ?_
          refine r_iload_n (q := 48) C 0 dX1_addDecimals_47 rfl rfl ?_
          refine r_if_eq_f (q := 51) (tgt := 61) C dX1_addDecimals_48 (by decide) rfl (by decide) ?_
          refine r_aload_n (q := 52) C 3 dX1_addDecimals_51 rfl rfl ?_
          refine r_bipush (q := 54) C (nI 48) dX1_addDecimals_52 (by decide) rfl ?_
          refine r_iload (q := 56) C 1 dX1_addDecimals_54 rfl rfl ?_
          refine r_iadd (q := 57) C dX1_addDecimals_56 rfl ?_
          refine r_ti (show ((nI 48) + (nI ((v / u9) % 10)) : Int32) = nI (48 + ((v / u9) % 10)) from nI_add 48 ((v / u9) % 10)) ?_
          refine r_i2c (q := 58) C dX1_addDecimals_57 rfl ?_
          refine r_ti (show (((nI (48 + ((v / u9) % 10))).toUInt32 % 65536).toInt32 : Int32) = nI (48 + (v / u9) % 10) from (sb_byte _ (by omega)).2.1) ?_
          obtain ⟨z11f, z110, z111, z112⟩ := id hF1
          refine r_callV (q := 61) (t := 115) (As := [.int (nI (48 + (v / u9) % 10))]) (st := []) C koX1 z110 (c_fadd hF1 (by rw [List.length_cons] at hl1; omega)) q491 q488 q490 qp12 q8 rfl ⟨by decide, by decide⟩ (show (parseMethodDescriptor yX1_add.desc).map (fun d => d.parameters.length) = some 1 by decide +kernel) (by decide) (by decide) (by decide) (by decide) (Nat.le_of_ble_eq_true rfl) rfl dX1_addDecimals_58 rfl ?_
          rintro v9 w2 ⟨rfl, hF2, ef2⟩
          show V g k 7 w2 0 0 (kQ g k (fun v9 w' => v9 = none ∧ FmAt g w' af asg (T ++ dgs 10 v 0) ∧ Fr w w' 115 117) 0 0) 61 [(3, .int (nI 1)), (6, .int (nI ((v / u9) % 10))), (4, .long (lN u9)), (0, .ref af), (1, .long (lN v))] []
          refine r_lload (q := 63) C 2 dX1_addDecimals_61 rfl rfl ?_
          refine r_ldc2 (q := 66) (v := lN 10) C dX1_addDecimals_63 q498 rfl ?_
          refine r_ldiv (q := 67) C dX1_addDecimals_66 (by decide) rfl ?_
          refine r_tl (show ((lN u9) / (lN 10) : Int64) = lN (u9 / 10) from pk_lDiv (by omega) (by omega) (by omega)) ?_
          refine r_lstore (q := 69) (lv' := [(4, .long (lN (u9 / 10))), (3, .int (nI 1)), (6, .int (nI ((v / u9) % 10))), (0, .ref af), (1, .long (lN v))]) C dX1_addDecimals_67 (by decide) rfl rfl ?_
          refine r_goto (tgt := 7) C dX1_addDecimals_69 (by decide) ?_
          refine r_sub (lv' := [(3, .int (nI 1)), (4, .long (lN (u9 / 10))), (0, .ref af), (1, .long (lN v))]) [1, 0, 3, 4] rfl ?_
          rw [hu]
          exact ih (i + 1) 1 _ w2 (by omega) hF2 (by rw [ap_l]; exact hl1) (ap_3 hT) (by decide) (hf1.trans ef2)
        · have hc9 : ¬ 0 < ((v / u9) % 10) := fun z => hc9 ((nI_ltI (a := 0) (b := ((v / u9) % 10)) (by omega) (by omega)).mpr z)
          refine r_lload (q := 36) C 2 dX1_addDecimals_34 rfl rfl ?_
          refine r_lconst (q := 37) C (lN 1) dX1_addDecimals_36 (by decide) rfl ?_
          refine r_lcmp_ne (q := 38) (q2 := 41) (tgt := 45) C dX1_addDecimals_37 rfl dX1_addDecimals_38 (by decide) rfl (fun hc14 => ?_) (fun hc14 => ?_)
          · have hc14 : ¬ u9 = 1 := fun z => hc14 ((pk_lEQ (a := u9) (b := 1) (by omega) (by omega)).mpr z)
            have hc9 : ¬ (¬ b = 0 ∨ 0 < (v / u9) % 10 ∨ r = 0) := by intro z; rcases z with z | z | z; exact z hc4; exact hc9 z; exact hc14 (by rw [hu, z])
            rw [dgs_n (by rw [← hu]; exact hc9)] at hT hl1
            refine r_iconst (q := 46) C (nI 0) dX1_addDecimals_45 (by decide) rfl ?_
            refine r_istore_n (q := 47) (lv' := [(3, .int (nI 0)), (6, .int (nI ((v / u9) % 10))), (4, .long (lN u9)), (0, .ref af), (1, .long (lN v))]) C dX1_addDecimals_46 (by decide) rfl rfl ?_
            refine r_iload_n (q := 48) C 0 dX1_addDecimals_47 rfl rfl ?_
            refine r_if_eq_t (tgt := 61) C dX1_addDecimals_48 (by decide) (by decide) ?_
            refine r_lload (q := 63) C 2 dX1_addDecimals_61 rfl rfl ?_
            refine r_ldc2 (q := 66) (v := lN 10) C dX1_addDecimals_63 q498 rfl ?_
            refine r_ldiv (q := 67) C dX1_addDecimals_66 (by decide) rfl ?_
            refine r_tl (show ((lN u9) / (lN 10) : Int64) = lN (u9 / 10) from pk_lDiv (by omega) (by omega) (by omega)) ?_
            refine r_lstore (q := 69) (lv' := [(4, .long (lN (u9 / 10))), (3, .int (nI 0)), (6, .int (nI ((v / u9) % 10))), (0, .ref af), (1, .long (lN v))]) C dX1_addDecimals_67 (by decide) rfl rfl ?_
            refine r_goto (tgt := 7) C dX1_addDecimals_69 (by decide) ?_
            refine r_sub (lv' := [(3, .int (nI 0)), (4, .long (lN (u9 / 10))), (0, .ref af), (1, .long (lN v))]) [1, 0, 3, 4] rfl ?_
            rw [hu]
            exact ih (i + 1) 0 _ w1 (by omega) hF1 hl1 hT (by decide) hf1
          · have hc14 : u9 = 1 := (pk_lEQ (a := u9) (b := 1) (by omega) (by omega)).mp hc14
            have hc9 : ¬ b = 0 ∨ 0 < (v / u9) % 10 ∨ r = 0 := Or.inr (Or.inr (p10_1 (hu.symm.trans hc14)))
            rw [dgs_y (by rw [← hu]; exact hc9), ← hu] at hT hl1
            refine r_iconst (q := 42) C (nI 1) dX1_addDecimals_41 (by decide) rfl ?_
            refine r_goto (tgt := 46) C dX1_addDecimals_42 (by decide) ?_
            refine r_istore_n (q := 47) (lv' := [(3, .int (nI 1)), (6, .int (nI ((v / u9) % 10))), (4, .long (lN u9)), (0, .ref af), (1, .long (lN v))]) C dX1_addDecimals_46 (by decide) rfl rfl ?_
            refine r_iload_n (q := 48) C 0 dX1_addDecimals_47 rfl rfl ?_
            refine r_if_eq_f (q := 51) (tgt := 61) C dX1_addDecimals_48 (by decide) rfl (by decide) ?_
            refine r_aload_n (q := 52) C 3 dX1_addDecimals_51 rfl rfl ?_
            refine r_bipush (q := 54) C (nI 48) dX1_addDecimals_52 (by decide) rfl ?_
            refine r_iload (q := 56) C 1 dX1_addDecimals_54 rfl rfl ?_
            refine r_iadd (q := 57) C dX1_addDecimals_56 rfl ?_
            refine r_ti (show ((nI 48) + (nI ((v / u9) % 10)) : Int32) = nI (48 + ((v / u9) % 10)) from nI_add 48 ((v / u9) % 10)) ?_
            refine r_i2c (q := 58) C dX1_addDecimals_57 rfl ?_
            refine r_ti (show (((nI (48 + ((v / u9) % 10))).toUInt32 % 65536).toInt32 : Int32) = nI (48 + (v / u9) % 10) from (sb_byte _ (by omega)).2.1) ?_
            obtain ⟨z17f, z170, z171, z172⟩ := id hF1
            refine r_callV (q := 61) (t := 115) (As := [.int (nI (48 + (v / u9) % 10))]) (st := []) C koX1 z170 (c_fadd hF1 (by rw [List.length_cons] at hl1; omega)) q491 q488 q490 qp12 q8 rfl ⟨by decide, by decide⟩ (show (parseMethodDescriptor yX1_add.desc).map (fun d => d.parameters.length) = some 1 by decide +kernel) (by decide) (by decide) (by decide) (by decide) (Nat.le_of_ble_eq_true rfl) rfl dX1_addDecimals_58 rfl ?_
            rintro v9 w2 ⟨rfl, hF2, ef2⟩
            show V g k 7 w2 0 0 (kQ g k (fun v9 w' => v9 = none ∧ FmAt g w' af asg (T ++ dgs 10 v 0) ∧ Fr w w' 115 117) 0 0) 61 [(3, .int (nI 1)), (6, .int (nI ((v / u9) % 10))), (4, .long (lN u9)), (0, .ref af), (1, .long (lN v))] []
            refine r_lload (q := 63) C 2 dX1_addDecimals_61 rfl rfl ?_
            refine r_ldc2 (q := 66) (v := lN 10) C dX1_addDecimals_63 q498 rfl ?_
            refine r_ldiv (q := 67) C dX1_addDecimals_66 (by decide) rfl ?_
            refine r_tl (show ((lN u9) / (lN 10) : Int64) = lN (u9 / 10) from pk_lDiv (by omega) (by omega) (by omega)) ?_
            refine r_lstore (q := 69) (lv' := [(4, .long (lN (u9 / 10))), (3, .int (nI 1)), (6, .int (nI ((v / u9) % 10))), (0, .ref af), (1, .long (lN v))]) C dX1_addDecimals_67 (by decide) rfl rfl ?_
            refine r_goto (tgt := 7) C dX1_addDecimals_69 (by decide) ?_
            refine r_sub (lv' := [(3, .int (nI 1)), (4, .long (lN (u9 / 10))), (0, .ref af), (1, .long (lN v))]) [1, 0, 3, 4] rfl ?_
            rw [hu]
            exact ih (i + 1) 1 _ w2 (by omega) hF2 (by rw [ap_l]; exact hl1) (ap_3 hT) (by decide) (hf1.trans ef2)
  exact loop 10 0 0 T w (by omega) hF hl rfl (by decide) Fr.rfl'

set_option maxHeartbeats 4000000 in
set_option maxRecDepth 20000 in
theorem c_fill {l : Launch} {g : cx_G} {w : wd_T} {af asg : Nat} {T : List Int32} (hF : FmAt g w af asg T) {a t atf atw : Nat} {ff : Nat → Int64} {vn : Nat → Nat} (ht : 1000 ≤ t) (h0 : w t = some (a, ob 6 [.ref atf, .ref atw])) (h1 : w (t + 1) = some (atf, aL g 9 ff)) (hv : ∀ i, i < 9 → ff i = lN (vn i)) (hb : Fb9 vn) : Mt l g yX1_fill cX1_fill 3 none 4 0 0 w [.ref af, .ref a] (fun v w' => v = none ∧ FmAt g w' af asg (fmT vn) ∧ Fr w w' 115 117) := by
  refine mt_of RX1 "fill" rfl rfl (by decide) (Nat.le_of_ble_eq_true rfl) [(0, .ref af), (1, .ref a)] rfl ?_
  intro k hkl C hin
  subst hkl
  have hvb : ∀ i, i < 9 → vn i < 10000000000 := fun i hi => Nat.lt_of_lt_of_le (hb.1 i hi) (Nat.le_trans (Nat.pow_le_pow_right (by decide) (show wd9 i ≤ 10 from (by decide : ∀ i, i < 9 → wd9 i ≤ 10) i hi)) (by decide))
  obtain ⟨f1, f0, f2, f3⟩ := hF
  refine r_aload_n (q := 1) C 0 dX1_fill_0 rfl rfl ?_
  refine r_iconst (q := 2) C (nI 0) dX1_fill_1 (by decide) rfl ?_
  refine r_put (q := 5) (t := 115) (w' := wd_set w 115 af (ob 1 [.ref asg, .int (nI 0)])) C koX1 f0 1 (by decide) q119 rfl rfl rfl rfl (Nat.le_of_ble_eq_true rfl) dX1_fill_2 rfl rfl ?_
  refine r_iconst (q := 6) C (nI 0) dX1_fill_5 (by decide) rfl ?_
  refine r_istore_n (q := 7) (lv' := [(2, .int (nI 0)), (0, .ref af), (1, .ref a)]) C dX1_fill_6 (by decide) rfl rfl ?_
  refine r_sub (lv' := [(2, .int (nI 0)), (0, .ref af), (1, .ref a)]) [0, 1, 2] rfl ?_
  have hF0 : FmAt g (wd_set w 115 af (ob 1 [.ref asg, .int (nI 0)])) af asg [] := ⟨f1, wd_eq, ((wd_ne (by decide)).trans f2), fun j hj => absurd hj (Nat.not_lt_zero j)⟩
  have hf0 : Fr w (wd_set w 115 af (ob 1 [.ref asg, .int (nI 0)])) 115 117 := Fr.set (by decide) (by decide)
  have loop : ∀ (r i : Nat)  (w1 : wd_T), i + r = 8 → (FmAt g w1 af asg (fmB vn i)) → (Fr w w1 115 117) → V g k 3 w1 0 0 (kQ g k (fun v w' => v = none ∧ FmAt g w' af asg (fmT vn) ∧ Fr w w' 115 117) 0 0) 7 [(2, .int (nI i)), (0, .ref af), (1, .ref a)] [] := by
    intro r
    induction r with
    | zero =>
      intro i  w1 hi hF1 hf1
      obtain rfl : i = 8 := by omega
      refine r_iload_n (q := 8) C 0 dX1_fill_7 rfl rfl ?_
      refine r_bipush (q := 10) C (nI 7) dX1_fill_8 (by decide) rfl ?_
      refine r_icmp_gt_t (tgt := 38) C dX1_fill_10 (by decide) ((nI_ltI (a := 7) (b := 8) (by omega) (by omega)).mpr (by omega)) ?_
      refine r_aload_n (q := 39) C 2 dX1_fill_38 rfl rfl ?_
      rcases Nat.eq_zero_or_pos (vn 8) with h8 | h8
      · refine r_callV (q := 42) (t := t) (As := []) (st := []) C koX6 ((hf1 t (by omega)).trans h0) (c_isv_n ((hf1 t (by omega)).trans h0) ((hf1 (t + 1) (by omega)).trans h1) (by rw [hv 8 (by decide), h8])) q413 q499 q411 q412 q17 rfl ⟨by decide, by decide⟩ (show (parseMethodDescriptor yX6_isVoid.desc).map (fun d => d.parameters.length) = some 0 by decide +kernel) (by decide) (by decide) (by decide) (by decide) (Nat.le_of_ble_eq_true rfl) rfl dX1_fill_39 rfl ?_
        rintro v9 w1 ⟨rfl, rfl⟩
        show V g k 3 w1 0 0 (kQ g k (fun v w' => v = none ∧ FmAt g w' af asg (fmT vn) ∧ Fr w w' 115 117) 0 0) 42 [(2, .int (nI 8)), (0, .ref af), (1, .ref a)] [.int (nI 0)]
        refine r_if_eq_t (tgt := 82) C dX1_fill_42 (by decide) (by decide) ?_
        exact r_vret C rfl (by decide) (by decide) dX1_fill_82 ⟨rfl, by unfold fmT; rw [if_pos h8]; exact hF1, hf1⟩
      · have hb8 := hvb 8 (by decide)
        refine r_callV (q := 42) (t := t) (As := []) (st := []) C koX6 ((hf1 t (by omega)).trans h0) (c_isv_y ((hf1 t (by omega)).trans h0) ((hf1 (t + 1) (by omega)).trans h1) (fun z => absurd ((pk_lEQ (a := vn 8) (b := 0) (by omega) (by omega)).mp ((hv 8 (by decide)).symm.trans z)) (by omega))) q413 q499 q411 q412 q17 rfl ⟨by decide, by decide⟩ (show (parseMethodDescriptor yX6_isVoid.desc).map (fun d => d.parameters.length) = some 0 by decide +kernel) (by decide) (by decide) (by decide) (by decide) (Nat.le_of_ble_eq_true rfl) rfl dX1_fill_39 rfl ?_
        rintro v9 w2 ⟨rfl, rfl⟩
        show V g k 3 w1 0 0 (kQ g k (fun v w' => v = none ∧ FmAt g w' af asg (fmT vn) ∧ Fr w w' 115 117) 0 0) 42 [(2, .int (nI 8)), (0, .ref af), (1, .ref a)] [.int (nI 1)]
        refine r_if_eq_f (q := 45) (tgt := 82) C dX1_fill_42 (by decide) rfl (by decide) ?_
        refine r_iconst (q := 46) C (nI 0) dX1_fill_45 (by decide) rfl ?_
        refine r_istore_n (q := 47) (lv' := [(2, .int (nI 0)), (0, .ref af), (1, .ref a)]) C dX1_fill_46 (by decide) rfl rfl ?_
        refine r_sub (lv' := [(2, .int (nI 0)), (0, .ref af), (1, .ref a)]) [0, 1, 2] rfl ?_
        have l8 := fmB_len hb 8 (by decide)
        have l9 := ln9_le 8 (by decide)
        have d8 := dgs_len (wd9_1 8 (by decide)) (hb.1 8 (by decide)) 10
        have l7 : wd9 8 = 2 := rfl
        have loop2 : ∀ (r i : Nat)  (w3 : wd_T), i + r = 6 → (FmAt g w3 af asg (fmB vn 8 ++ vdB i)) → (Fr w w3 115 117) → V g k 3 w3 0 0 (kQ g k (fun v w' => v = none ∧ FmAt g w' af asg (fmT vn) ∧ Fr w w' 115 117) 0 0) 47 [(2, .int (nI i)), (0, .ref af), (1, .ref a)] [] := by
          intro r
          induction r with
          | zero =>
            intro i  w3 hi hF3 hf3
            refine r_iload_n (q := 48) C 0 dX1_fill_47 rfl rfl ?_
            refine r_ldcV (q := 50) C (ks_V C) dX1_fill_48 rfl ?_
            refine r_callK (q := 53) (As := []) (st := [.int (nI i)]) C (ks_Vo C) (c_slen) q504 q501 q502 q503 q19 rfl ⟨by decide, by decide⟩ (show (parseMethodDescriptor yJ0_length_8abf5.desc).map (fun d => d.parameters.length) = some 0 by decide +kernel) (by decide) (by decide) (by decide) (by decide) (Nat.le_of_ble_eq_true rfl) rfl dX1_fill_50 rfl ?_
            rintro v9 _ ⟨rfl, rfl⟩
            show V g k 3 w3 0 0 (kQ g k (fun v w' => v = none ∧ FmAt g w' af asg (fmT vn) ∧ Fr w w' 115 117) 0 0) 53 [(2, .int (nI i)), (0, .ref af), (1, .ref a)] [.int (nI 6), .int (nI i)]
            refine r_icmp_ge_t (tgt := 72) C dX1_fill_53 (by decide) ((nI_leI (a := 6) (b := i) (by omega) (by omega)).mpr (by omega)) ?_
            obtain rfl : i = 6 := by omega
            refine r_aload_n (q := 73) C 1 dX1_fill_72 rfl rfl ?_
            refine r_aload_n (q := 74) C 2 dX1_fill_73 rfl rfl ?_
            refine r_bipush (q := 76) C (nI 8) dX1_fill_74 (by decide) rfl ?_
            refine r_callV (q := 79) (t := t) (As := [.int (nI 8)]) (st := [.ref af]) C koX6 ((hf3 t (by omega)).trans h0) (c_fld_y ((hf3 t (by omega)).trans h0) ((hf3 (t + 1) (by omega)).trans h1) (i := 8) (by omega)) q312 q492 q310 q311 q17 rfl ⟨by decide, by decide⟩ (show (parseMethodDescriptor yX6_field.desc).map (fun d => d.parameters.length) = some 1 by decide +kernel) (by decide) (by decide) (by decide) (by decide) (Nat.le_of_ble_eq_true rfl) rfl dX1_fill_76 rfl ?_
            rintro v9 w3 ⟨rfl, rfl⟩
            show V g k 3 w3 0 0 (kQ g k (fun v w' => v = none ∧ FmAt g w' af asg (fmT vn) ∧ Fr w w' 115 117) 0 0) 79 [(2, .int (nI 6)), (0, .ref af), (1, .ref a)] [.long (ff 8), .ref af]
            refine r_tl (show (ff 8 : Int64) = lN (vn 8) from hv _ (by omega)) ?_
            obtain ⟨z4f, z40, z41, z42⟩ := id hF3
            refine r_callV (q := 82) (t := 115) (As := [.long (lN (vn 8))]) (st := []) C koX1 z40 (c_addD hF3 (hvb 8 (by decide)) (by rw [List.length_append, vdB_len]; omega)) q496 q493 q495 qp13 q8 rfl ⟨by decide, by decide⟩ (show (parseMethodDescriptor yX1_addDecimals.desc).map (fun d => d.parameters.length) = some 1 by decide +kernel) (by decide) (by decide) (by decide) (by decide) (Nat.le_of_ble_eq_true rfl) rfl dX1_fill_79 rfl ?_
            rintro v9 w4 ⟨rfl, hF4, ef4⟩
            show V g k 3 w4 0 0 (kQ g k (fun v w' => v = none ∧ FmAt g w' af asg (fmT vn) ∧ Fr w w' 115 117) 0 0) 82 [(2, .int (nI 6)), (0, .ref af), (1, .ref a)] []
            exact r_vret C rfl (by decide) (by decide) dX1_fill_82 ⟨rfl, by unfold fmT; rw [if_neg (by omega)]; exact hF4, hf3.trans ef4⟩
          | succ r ih =>
            intro i  w3 hi hF3 hf3
            refine r_iload_n (q := 48) C 0 dX1_fill_47 rfl rfl ?_
            refine r_ldcV (q := 50) C (ks_V C) dX1_fill_48 rfl ?_
            refine r_callK (q := 53) (As := []) (st := [.int (nI i)]) C (ks_Vo C) (c_slen) q504 q501 q502 q503 q19 rfl ⟨by decide, by decide⟩ (show (parseMethodDescriptor yJ0_length_8abf5.desc).map (fun d => d.parameters.length) = some 0 by decide +kernel) (by decide) (by decide) (by decide) (by decide) (Nat.le_of_ble_eq_true rfl) rfl dX1_fill_50 rfl ?_
            rintro v9 _ ⟨rfl, rfl⟩
            show V g k 3 w3 0 0 (kQ g k (fun v w' => v = none ∧ FmAt g w' af asg (fmT vn) ∧ Fr w w' 115 117) 0 0) 53 [(2, .int (nI i)), (0, .ref af), (1, .ref a)] [.int (nI 6), .int (nI i)]
            refine r_icmp_ge_f (q := 56) (tgt := 72) C dX1_fill_53 (by decide) rfl (fun z => absurd ((nI_leI (a := 6) (b := i) (by omega) (by omega)).mp z) (by omega)) ?_
            refine r_aload_n (q := 57) C 1 dX1_fill_56 rfl rfl ?_
            refine r_ldcV (q := 59) C (ks_V C) dX1_fill_57 rfl ?_
            refine r_iload_n (q := 60) C 0 dX1_fill_59 rfl rfl ?_
            refine r_callK (q := 63) (As := [.int (nI i)]) (st := [.ref af]) C (ks_Vo C) (c_sch (by omega)) q514 q511 q512 q513 q19 rfl ⟨by decide, by decide⟩ (show (parseMethodDescriptor yJ0_charAt_5068e.desc).map (fun d => d.parameters.length) = some 1 by decide +kernel) (by decide) (by decide) (by decide) (by decide) (Nat.le_of_ble_eq_true rfl) rfl dX1_fill_60 rfl ?_
            rintro v9 _ ⟨rfl, rfl⟩
            show V g k 3 w3 0 0 (kQ g k (fun v w' => v = none ∧ FmAt g w' af asg (fmT vn) ∧ Fr w w' 115 117) 0 0) 63 [(2, .int (nI i)), (0, .ref af), (1, .ref a)] [.int (nI (kVc i)), .ref af]
            obtain ⟨z7f, z70, z71, z72⟩ := id hF3
            refine r_callV (q := 66) (t := 115) (As := [.int (nI (kVc i))]) (st := []) C koX1 z70 (c_fadd hF3 (by rw [List.length_append, vdB_len]; omega)) q491 q488 q490 qp12 q8 rfl ⟨by decide, by decide⟩ (show (parseMethodDescriptor yX1_add.desc).map (fun d => d.parameters.length) = some 1 by decide +kernel) (by decide) (by decide) (by decide) (by decide) (Nat.le_of_ble_eq_true rfl) rfl dX1_fill_63 rfl ?_
            rintro v9 w4 ⟨rfl, hF4, ef4⟩
            show V g k 3 w4 0 0 (kQ g k (fun v w' => v = none ∧ FmAt g w' af asg (fmT vn) ∧ Fr w w' 115 117) 0 0) 66 [(2, .int (nI i)), (0, .ref af), (1, .ref a)] []
            refine r_iinc (q := 69) (v := nI (i + 1)) (lv' := [(2, .int (nI (i + 1))), (0, .ref af), (1, .ref a)]) C 0 dX1_fill_66 rfl (nI_1 i) (by decide) rfl rfl ?_
            refine r_goto (tgt := 47) C dX1_fill_69 (by decide) ?_
            refine r_sub (lv' := [(2, .int (nI (i + 1))), (0, .ref af), (1, .ref a)]) [0, 1, 2] rfl ?_
            exact ih (i + 1) w4 (by omega) (by rw [vdB, ← List.append_assoc]; exact hF4) (hf3.trans ef4)
        exact loop2 6 0 w1 (by omega) (by rw [vdB, List.append_nil]; exact hF1) hf1
    | succ r ih =>
      intro i  w1 hi hF1 hf1
      refine r_iload_n (q := 8) C 0 dX1_fill_7 rfl rfl ?_
      refine r_bipush (q := 10) C (nI 7) dX1_fill_8 (by decide) rfl ?_
      refine r_icmp_gt_f (q := 13) (tgt := 38) C dX1_fill_10 (by decide) rfl (fun z => absurd ((nI_ltI (a := 7) (b := i) (by omega) (by omega)).mp z) (by omega)) ?_
      refine r_iload_n (q := 14) C 0 dX1_fill_13 rfl rfl ?_
      have hm := fmB_len hb (i + 1) (by omega)
      have hm2 := ln9_le (i + 1) (by omega)
      rw [fmB, List.length_append] at hm
      refine r_if_le (q := 17) (tgt := 23) C dX1_fill_14 (by decide) rfl (fun hc10 => ?_) (fun hc10 => ?_)
      · have hc10 : i ≤ 0 := (nI_leI (a := i) (b := 0) (by omega) (by omega)).mp hc10
        refine r_aload_n (q := 24) C 1 dX1_fill_23 rfl rfl ?_
        refine r_aload_n (q := 25) C 2 dX1_fill_24 rfl rfl ?_
        refine r_iload_n (q := 26) C 0 dX1_fill_25 rfl rfl ?_
        refine r_callV (q := 29) (t := t) (As := [.int (nI i)]) (st := [.ref af]) C koX6 ((hf1 t (by omega)).trans h0) (c_fld_y ((hf1 t (by omega)).trans h0) ((hf1 (t + 1) (by omega)).trans h1) (i := i) (by omega)) q312 q492 q310 q311 q17 rfl ⟨by decide, by decide⟩ (show (parseMethodDescriptor yX6_field.desc).map (fun d => d.parameters.length) = some 1 by decide +kernel) (by decide) (by decide) (by decide) (by decide) (Nat.le_of_ble_eq_true rfl) rfl dX1_fill_26 rfl ?_
        rintro v9 w12 ⟨rfl, rfl⟩
        show V g k 3 w1 0 0 (kQ g k (fun v w' => v = none ∧ FmAt g w' af asg (fmT vn) ∧ Fr w w' 115 117) 0 0) 29 [(2, .int (nI i)), (0, .ref af), (1, .ref a)] [.long (ff i), .ref af]
        refine r_tl (show (ff i : Int64) = lN (vn i) from hv _ (by omega)) ?_
        obtain ⟨z13f, z130, z131, z132⟩ := id hF1
        refine r_callV (q := 32) (t := 115) (As := [.long (lN (vn i))]) (st := []) C koX1 z130 (c_addD hF1 (hvb i (by omega)) (by rw [if_neg (by omega)] at hm; omega)) q496 q493 q495 qp13 q8 rfl ⟨by decide, by decide⟩ (show (parseMethodDescriptor yX1_addDecimals.desc).map (fun d => d.parameters.length) = some 1 by decide +kernel) (by decide) (by decide) (by decide) (by decide) (Nat.le_of_ble_eq_true rfl) rfl dX1_fill_29 rfl ?_
        rintro v9 w4 ⟨rfl, hF4, ef4⟩
        show V g k 3 w4 0 0 (kQ g k (fun v w' => v = none ∧ FmAt g w' af asg (fmT vn) ∧ Fr w w' 115 117) 0 0) 32 [(2, .int (nI i)), (0, .ref af), (1, .ref a)] []
        refine r_iinc (q := 35) (v := nI (i + 1)) (lv' := [(2, .int (nI (i + 1))), (0, .ref af), (1, .ref a)]) C 0 dX1_fill_32 rfl (nI_1 i) (by decide) rfl rfl ?_
        refine r_goto (tgt := 7) C dX1_fill_35 (by decide) ?_
        refine r_sub (lv' := [(2, .int (nI (i + 1))), (0, .ref af), (1, .ref a)]) [0, 1, 2] rfl ?_
        exact ih (i + 1) w4 (by omega) (by rw [fmB, if_neg (by omega)]; exact hF4) (hf1.trans ef4)
      · have hc10 : ¬ i ≤ 0 := fun z => hc10 ((nI_leI (a := i) (b := 0) (by omega) (by omega)).mpr z)
        refine r_aload_n (q := 18) C 1 dX1_fill_17 rfl rfl ?_
        refine r_bipush (q := 20) C (nI 32) dX1_fill_18 (by decide) rfl ?_
        rw [if_pos (by omega), List.length_append, List.length_singleton] at hm
        obtain ⟨z16f, z160, z161, z162⟩ := id hF1
        refine r_callV (q := 23) (t := 115) (As := [.int (nI 32)]) (st := []) C koX1 z160 (c_fadd hF1 (by omega)) q491 q488 q490 qp12 q8 rfl ⟨by decide, by decide⟩ (show (parseMethodDescriptor yX1_add.desc).map (fun d => d.parameters.length) = some 1 by decide +kernel) (by decide) (by decide) (by decide) (by decide) (Nat.le_of_ble_eq_true rfl) rfl dX1_fill_20 rfl ?_
        rintro v9 w3 ⟨rfl, hF3, ef3⟩
        have hf3 := hf1.trans ef3
        show V g k 3 w3 0 0 (kQ g k (fun v w' => v = none ∧ FmAt g w' af asg (fmT vn) ∧ Fr w w' 115 117) 0 0) 23 [(2, .int (nI i)), (0, .ref af), (1, .ref a)] []
        refine r_aload_n (q := 24) C 1 dX1_fill_23 rfl rfl ?_
        refine r_aload_n (q := 25) C 2 dX1_fill_24 rfl rfl ?_
        refine r_iload_n (q := 26) C 0 dX1_fill_25 rfl rfl ?_
        refine r_callV (q := 29) (t := t) (As := [.int (nI i)]) (st := [.ref af]) C koX6 ((hf3 t (by omega)).trans h0) (c_fld_y ((hf3 t (by omega)).trans h0) ((hf3 (t + 1) (by omega)).trans h1) (i := i) (by omega)) q312 q492 q310 q311 q17 rfl ⟨by decide, by decide⟩ (show (parseMethodDescriptor yX6_field.desc).map (fun d => d.parameters.length) = some 1 by decide +kernel) (by decide) (by decide) (by decide) (by decide) (Nat.le_of_ble_eq_true rfl) rfl dX1_fill_26 rfl ?_
        rintro v9 w18 ⟨rfl, rfl⟩
        show V g k 3 w3 0 0 (kQ g k (fun v w' => v = none ∧ FmAt g w' af asg (fmT vn) ∧ Fr w w' 115 117) 0 0) 29 [(2, .int (nI i)), (0, .ref af), (1, .ref a)] [.long (ff i), .ref af]
        refine r_tl (show (ff i : Int64) = lN (vn i) from hv _ (by omega)) ?_
        obtain ⟨z19f, z190, z191, z192⟩ := id hF3
        refine r_callV (q := 32) (t := 115) (As := [.long (lN (vn i))]) (st := []) C koX1 z190 (c_addD hF3 (hvb i (by omega)) (by rw [List.length_append, List.length_singleton]; omega)) q496 q493 q495 qp13 q8 rfl ⟨by decide, by decide⟩ (show (parseMethodDescriptor yX1_addDecimals.desc).map (fun d => d.parameters.length) = some 1 by decide +kernel) (by decide) (by decide) (by decide) (by decide) (Nat.le_of_ble_eq_true rfl) rfl dX1_fill_29 rfl ?_
        rintro v9 w4 ⟨rfl, hF4, ef4⟩
        show V g k 3 w4 0 0 (kQ g k (fun v w' => v = none ∧ FmAt g w' af asg (fmT vn) ∧ Fr w w' 115 117) 0 0) 32 [(2, .int (nI i)), (0, .ref af), (1, .ref a)] []
        refine r_iinc (q := 35) (v := nI (i + 1)) (lv' := [(2, .int (nI (i + 1))), (0, .ref af), (1, .ref a)]) C 0 dX1_fill_32 rfl (nI_1 i) (by decide) rfl rfl ?_
        refine r_goto (tgt := 7) C dX1_fill_35 (by decide) ?_
        refine r_sub (lv' := [(2, .int (nI (i + 1))), (0, .ref af), (1, .ref a)]) [0, 1, 2] rfl ?_
        exact ih (i + 1) w4 (by omega) (by rw [fmB, if_pos (by omega)]; exact hF4) (hf3.trans ef4)
  exact loop 8 0 _ (by omega) hF0 hf0

set_option maxHeartbeats 4000000 in
set_option maxRecDepth 20000 in
theorem c_sign_y {l : Launch} {g : cx_G} {w : wd_T} {af asg : Nat} {T : List Int32} (hF : FmAt g w af asg T) {i : Nat} (hi : i < T.length) (hl : T.length ≤ 62) : Mt l g yX1_sign cX1_sign 2 (some .int) 0 0 0 w [.ref af, .int (nI i)] (fun v w' => v = some (.int (T[i]?.getD 0)) ∧ w = w') := by
  refine mt_of RX1 "sign" rfl rfl (by decide) (Nat.le_of_ble_eq_true rfl) [(0, .ref af), (1, .int (nI i))] rfl ?_
  intro k hkl C hin
  subst hkl
  obtain ⟨f1, f0, f2, f3⟩ := hF
  refine r_iload_n (q := 1) C 1 dX1_sign_0 rfl rfl ?_
  refine r_if_lt_f (q := 4) (tgt := 30) C dX1_sign_1 (by decide) rfl (nI_pos (by omega)) ?_
  refine r_iload_n (q := 5) C 1 dX1_sign_4 rfl rfl ?_
  refine r_aload_n (q := 6) C 0 dX1_sign_5 rfl rfl ?_
  refine r_get (q := 9) (t := 115) C koX1 f0 1 (by decide) q119 rfl rfl dX1_sign_6 rfl ?_
  refine r_icmp_ge_f (q := 12) (tgt := 30) C dX1_sign_9 (by decide) rfl (fun z => absurd ((nI_leI (a := T.length) (b := i) (by omega) (by omega)).mp z) (by omega)) ?_
  refine r_iload_n (q := 13) C 1 dX1_sign_12 rfl rfl ?_
  refine r_aload_n (q := 14) C 0 dX1_sign_13 rfl rfl ?_
  refine r_get (q := 17) (t := 115) C koX1 f0 0 (by decide) q118 rfl rfl dX1_sign_14 rfl ?_
  refine r_blen (q := 18) (t := 116) C f2 dX1_sign_17 rfl ?_
  refine r_icmp_ge_f (q := 21) (tgt := 30) C dX1_sign_18 (by decide) rfl (fun z => absurd ((nI_leI (a := 62) (b := i) (by omega) (by omega)).mp z) (by omega)) ?_
  refine r_aload_n (q := 22) C 0 dX1_sign_21 rfl rfl ?_
  refine r_get (q := 25) (t := 115) C koX1 f0 0 (by decide) q118 rfl rfl dX1_sign_22 rfl ?_
  refine r_iload_n (q := 26) C 1 dX1_sign_25 rfl rfl ?_
  refine r_bald (q := 27) (t := 116) C f2 i rfl (by omega) (by decide) dX1_sign_26 rfl ?_
  refine r_goto (tgt := 31) C dX1_sign_27 (by decide) ?_
  exact r_iret C rfl (by decide) (by decide) dX1_sign_31 ⟨by rw [f3 i hi]; rfl, rfl⟩

set_option maxHeartbeats 4000000 in
set_option maxRecDepth 20000 in
theorem c_sign_n {l : Launch} {g : cx_G} {w : wd_T} {af asg : Nat} {T : List Int32} (hF : FmAt g w af asg T) {x : Int32} (hx : x < 0 ∨ nI T.length ≤ x) : Mt l g yX1_sign cX1_sign 2 (some .int) 0 0 0 w [.ref af, .int x] (fun v w' => v = some (.int (-1)) ∧ w = w') := by
  refine mt_of RX1 "sign" rfl rfl (by decide) (Nat.le_of_ble_eq_true rfl) [(0, .ref af), (1, .int x)] rfl ?_
  intro k hkl C hin
  subst hkl
  obtain ⟨f1, f0, f2, f3⟩ := hF
  refine r_iload_n (q := 1) C 1 dX1_sign_0 rfl rfl ?_
  refine r_if_lt (q := 4) (tgt := 30) C dX1_sign_1 (by decide) rfl (fun hc1 => ?_) (fun hc1 => ?_)
  · refine r_iconst (q := 31) C ((-1)) dX1_sign_30 (by decide) rfl ?_
    exact r_iret C rfl (by decide) (by decide) dX1_sign_31 ⟨rfl, rfl⟩
  · refine r_iload_n (q := 5) C 1 dX1_sign_4 rfl rfl ?_
    refine r_aload_n (q := 6) C 0 dX1_sign_5 rfl rfl ?_
    refine r_get (q := 9) (t := 115) C koX1 f0 1 (by decide) q119 rfl rfl dX1_sign_6 rfl ?_
    refine r_icmp_ge_t (tgt := 30) C dX1_sign_9 (by decide) (by rcases hx with z | z; exact absurd z hc1; exact z) ?_
    refine r_iconst (q := 31) C ((-1)) dX1_sign_30 (by decide) rfl ?_
    exact r_iret C rfl (by decide) (by decide) dX1_sign_31 ⟨rfl, rfl⟩
