/-! the reference: the roots -/
def zX (r : Nat) : Nat := r / 262144
def zY (r : Nat) : Nat := r % 262144
def zV (r : Nat) : Nat := zY r * zY r
def zT (r : Nat) : Nat := 2 * zX r * zY r + zV r / 262144
def zU (r : Nat) : Nat := zV r % 262144
def zS (r : Nat) : Nat := zX r * zX r + zT r / 262144
def zW (r : Nat) : Nat := zT r % 262144
def zA (r : Nat) : Nat := zU r * zY r
def zB (r : Nat) : Nat := zU r * zX r + zW r * zY r + zA r / 262144
def zC (r : Nat) : Nat := zW r * zX r + zS r * zY r + zB r / 262144
def zD (r : Nat) : Nat := zS r * zX r + zC r / 262144
def zL (r : Nat) : Nat := zA r % 262144 + zB r % 262144 + zC r % 262144
def sqA (p r : Nat) : Bool := Nat.ble (zS r + 1) (p * 268435456) || (Nat.beq (zS r) (p * 268435456) && Nat.beq (zW r + zU r) 0)
def cuA (p r : Nat) : Bool := Nat.ble (zD r + 1) (p * 4398046511104) || (Nat.beq (zD r) (p * 4398046511104) && Nat.beq (zL r) 0)
/-- the greatest number below 2 ^ r + low -/
def bs9 (f : Nat → Bool) : Nat → Nat → Nat
  | 0, low => low
  | r + 1, low => match f (low + 2 ^ r) with
    | true => bs9 f r (low + 2 ^ r)
    | false => bs9 f r low
def prB (p : Nat) : Nat → Bool
  | 0 => true
  | n + 1 => prB p n && (Nat.ble n 1 || !Nat.beq (p % n) 0)
def ck9 : Nat → Nat → Nat → Bool
  | 0, _, n => Nat.beq n 64
  | r + 1, p, n => match prB p p with
    | true => decide (nI (bs9 (cuA p) 36 0) = kCu n) && (Nat.ble 8 n || decide (nI (bs9 (sqA p) 36 0) = kSq n)) && ck9 r (p + 1) (n + 1)
    | false => ck9 r (p + 1) n
set_option maxRecDepth 100000 in
theorem ck9_all : ck9 310 2 0 = true := by decide +kernel
theorem z_b {r : Nat} (h : r ≤ 68719476736) : zX r ≤ 262144 ∧ zY r ≤ 262143 ∧ zV r ≤ 68718952449 ∧ zT r ≤ 137439477760 ∧ zU r ≤ 262143 ∧ zS r ≤ 68720001100 ∧ zW r ≤ 262143 ∧ zA r ≤ 68718952449 ∧ zB r ≤ 137439000000 ∧ zC r ≤ 18014535968096190 ∧ zD r ≤ 18014604688359508 ∧ zL r ≤ 786429 := by
  have hX : zX r ≤ 262144 := by unfold zX; omega
  have hY : zY r ≤ 262143 := by unfold zY; omega
  have hV : zV r ≤ 262143 * 262143 := Nat.mul_le_mul hY hY
  have hXY : 2 * zX r * zY r ≤ (2 * 262144) * 262143 := Nat.mul_le_mul (Nat.mul_le_mul (Nat.le_refl 2) hX) hY
  have hT : zT r ≤ 137439477760 := by unfold zT; omega
  have hU : zU r ≤ 262143 := by unfold zU; omega
  have hXX : zX r * zX r ≤ 262144 * 262144 := Nat.mul_le_mul hX hX
  have hS : zS r ≤ 68720001100 := by unfold zS; omega
  have hW : zW r ≤ 262143 := by unfold zW; omega
  have hA : zA r ≤ 262143 * 262143 := Nat.mul_le_mul hU hY
  have hUX : zU r * zX r ≤ 262143 * 262144 := Nat.mul_le_mul hU hX
  have hWY : zW r * zY r ≤ 262143 * 262143 := Nat.mul_le_mul hW hY
  have hB : zB r ≤ 137439000000 := by unfold zB; omega
  have hWX : zW r * zX r ≤ 262143 * 262144 := Nat.mul_le_mul hW hX
  have hSY : zS r * zY r ≤ 68720001100 * 262143 := Nat.mul_le_mul hS hY
  have hC : zC r ≤ 18014535968096190 := by unfold zC; omega
  have hSX : zS r * zX r ≤ 68720001100 * 262144 := Nat.mul_le_mul hS hX
  have hD : zD r ≤ 18014604688359508 := by unfold zD; omega
  exact ⟨hX, hY, by omega, hT, hU, hS, hW, by omega, hB, hC, hD, by unfold zL; omega⟩
theorem z18 {a : Nat} (h : a < 2 ^ 62) : lN a >>> ((nI 18).toInt64 &&& 63) = lN (a / 262144) := lshr9 (d := 18) (by decide) h
theorem zmk {a : Nat} (h : a < 2 ^ 62) : lN a &&& lN 262143 = lN (a % 262144) := wb_mask (k := 18) (by omega) (by decide)
theorem sqA_y {p r : Nat} (h : zS r < p * 268435456 ∨ (zS r = p * 268435456 ∧ zW r + zU r = 0)) : sqA p r = true := by
  unfold sqA
  rcases h with h | ⟨h, h2⟩
  · rw [Nat.ble_eq_true_of_le h]; rfl
  · rw [h, h2, Nat.beq_refl, Nat.beq_refl]; exact Bool.or_true _
theorem sqA_n {p r : Nat} (h : ¬ (zS r < p * 268435456 ∨ (zS r = p * 268435456 ∧ zW r + zU r = 0))) : sqA p r = false := by
  cases e : sqA p r with
  | false => rfl
  | true =>
    refine absurd ?_ h
    unfold sqA at e
    rcases (Bool.or_eq_true _ _).mp e with z | z
    · exact Or.inl (Nat.le_of_ble_eq_true z)
    · obtain ⟨a, b⟩ := (Bool.and_eq_true _ _).mp z
      exact Or.inr ⟨Nat.eq_of_beq_eq_true a, Nat.eq_of_beq_eq_true b⟩
theorem cuA_y {p r : Nat} (h : zD r < p * 4398046511104 ∨ (zD r = p * 4398046511104 ∧ zL r = 0)) : cuA p r = true := by
  unfold cuA
  rcases h with h | ⟨h, h2⟩
  · rw [Nat.ble_eq_true_of_le h]; rfl
  · rw [h, h2, Nat.beq_refl, Nat.beq_refl]; exact Bool.or_true _
theorem cuA_n {p r : Nat} (h : ¬ (zD r < p * 4398046511104 ∨ (zD r = p * 4398046511104 ∧ zL r = 0))) : cuA p r = false := by
  cases e : cuA p r with
  | false => rfl
  | true =>
    refine absurd ?_ h
    unfold cuA at e
    rcases (Bool.or_eq_true _ _).mp e with z | z
    · exact Or.inl (Nat.le_of_ble_eq_true z)
    · obtain ⟨a, b⟩ := (Bool.and_eq_true _ _).mp z
      exact Or.inr ⟨Nat.eq_of_beq_eq_true a, Nat.eq_of_beq_eq_true b⟩
def b9 : Bool → Nat
  | true => 1
  | false => 0
/-- a static call of a method with many locals -/
theorem r_callSw {g : cx_G} {k : kx_T} {own : String} {cc : ByteArray} {nL : Nat} {rt : Option FieldType} {d mc ms : Nat} {w : wd_T} {cells slots : Nat} {Q : State → Prop} {pc q : Nat} {lv : List (Nat × Value)} {st : List Value} {Φ : Option Value → wd_T → Prop} (C : Cx g k own cc nL rt d mc ms) {y : MethodName} {bytes : ByteArray} {n2 d2 mc2 ms2 ix : Nat} {rt2 : Option FieldType} {As : List Value} (hM : Mt (kxl k) g y bytes n2 rt2 d2 mc2 ms2 w As Φ) (hcode : Cond.code y bytes n2 rt2 ∈ GW) (hlink : Cond.methodLink own ix y ∈ GW) (hin : Cond.static y ∈ GW) (hini : Cond.initialized y.cls ∈ GW) (hmh : y.cls ≠ "java/lang/invoke/MethodHandle" ∧ y.cls ≠ "java/lang/invoke/VarHandle") (hpar : (parseMethodDescriptor y.desc).map (fun d => d.parameters.length) = some As.length) (hd : d2 + 1 ≤ d) (hm : 8 + (n2 + 11) + 40 * d2 ≤ 40 * d) (z1 : cells + mc2 ≤ mc) (z2 : slots + ms2 ≤ ms) (hst : (st.map fun v => v.category).sum ≤ 8) {st0 : List Value} (hst0 : st0 = As.reverse ++ st) (dg : decode cc pc = .ok (.invokestatic ix, 3)) (e : pc + 3 = q)
    (kk : ∀ (v : Option Value) (w' : wd_T), Φ v w' → V g k nL w' (cells + mc2) (slots + ms2) Q q lv (v.toList ++ st)) : V g k nL w cells slots Q pc lv st0 := by
  subst e hst0
  intro H locs ls ⟨ws, hP, hD, hw, hS⟩ h2 h3
  have hts := C.2.2.2.2.1
  have cb : CallB (kxR k) (kxs k) (kxa k) own ix y bytes n2 rt2 (Cond.code y bytes n2 rt2 :: GW) (rmd d2 mc2 ms2) mc2 ms2 As.length := callB_of As.length hts (gw_in hcode) rfl rfl rfl (hts _ hini) (hts _ hlink) ⟨hmh.1, hmh.2, hpar⟩ ⟨Nat.le_trans hd C.2.2.2.2.2.2.2.2.1, by have := C.2.2.2.2.2.2.2.2.2.1; show 8 + (n2 + 11) + 40 * d2 ≤ _; omega⟩
  exact go_run (va_runS (As := As) (rest := st) ⟨C.1, C.2.1, C.2.2.1, C.2.2.2.1, C.2.2.2.2.1⟩ hM ⟨cb, hts _ hin⟩ ⟨Pre9_blind, fun U hU hW => ⟨rfl, by rw [hU]; exact ⟨ws, hP, hD, hw, hS⟩, C.2.2.2.2.2.2.1.warm hW⟩⟩ rfl rfl h3.1 rfl (lv_room hst) dg ⟨Nat.le_trans z1 C.2.2.2.2.2.2.2.2.2.2.1, Nat.le_trans z2 C.2.2.2.2.2.2.2.2.2.2.2⟩) h2 h3 kk
set_option maxHeartbeats 4000000 in
set_option maxRecDepth 20000 in
theorem m_iam_s {l : Launch} {g : cx_G} {w : wd_T} {p9 r9 : Nat} (hp : p9 ≤ 400) (hr : r9 ≤ 68719476736) : Mt l g yX8_isAtMost cX8_isAtMost 24 (some .boolean) 0 0 0 w [.long (lN r9), .int (nI p9), .int (nI 0)] (fun v w' => v = some (.int (nI (b9 (sqA p9 r9)))) ∧ w = w') := by
  refine mt_of RX8 "isAtMost" rfl rfl (by decide) (Nat.le_of_ble_eq_true rfl) [(0, .long (lN r9)), (2, .int (nI p9)), (3, .int (nI 0))] rfl ?_
  intro k hkl C hin
  subst hkl
  obtain ⟨bX, bY, bV, bT, bU, bS, bW, bA, bB, bC, bD, bL⟩ := z_b hr
  refine r_lload_n (q := 1) C 0 dX8_isAtMost_0 rfl rfl ?_
  refine r_bipush (q := 3) C (nI 18) dX8_isAtMost_1 (by decide) rfl ?_
  refine r_lshr (q := 4) C dX8_isAtMost_3 rfl ?_
  refine r_tl (show ((lN r9) >>> ((nI 18).toInt64 &&& 63) : Int64) = lN (r9 / 262144) from z18 (by omega)) ?_
  refine r_tl (show (lN (r9 / 262144) : Int64) = lN (zX r9) from rfl) ?_
  refine r_lstore (q := 6) (lv' := [(4, .long (lN (zX r9))), (0, .long (lN r9)), (2, .int (nI p9)), (3, .int (nI 0))]) C dX8_isAtMost_4 (by decide) rfl rfl ?_
  refine r_lload_n (q := 7) C 1 dX8_isAtMost_6 rfl rfl ?_
  refine r_ldc2 (q := 10) (v := lN 262143) C dX8_isAtMost_7 q699 rfl ?_
  refine r_land (q := 11) C dX8_isAtMost_10 rfl ?_
  refine r_tl (show ((lN r9) &&& (lN 262143) : Int64) = lN (r9 % 262144) from zmk (by omega)) ?_
  refine r_tl (show (lN (r9 % 262144) : Int64) = lN (zY r9) from rfl) ?_
  refine r_lstore (q := 13) (lv' := [(6, .long (lN (zY r9))), (4, .long (lN (zX r9))), (0, .long (lN r9)), (2, .int (nI p9)), (3, .int (nI 0))]) C dX8_isAtMost_11 (by decide) rfl rfl ?_
  refine r_lload (q := 15) C 0 dX8_isAtMost_13 rfl rfl ?_
  refine r_lload (q := 17) C 0 dX8_isAtMost_15 rfl rfl ?_
  refine r_lmul (q := 18) C dX8_isAtMost_17 rfl ?_
  refine r_tl (show ((lN (zY r9)) * (lN (zY r9)) : Int64) = lN ((zY r9) * (zY r9)) from lN_mul (zY r9) (zY r9)) ?_
  refine r_tl (show (lN ((zY r9) * (zY r9)) : Int64) = lN (zV r9) from rfl) ?_
  refine r_lstore (q := 20) (lv' := [(8, .long (lN (zV r9))), (6, .long (lN (zY r9))), (4, .long (lN (zX r9))), (0, .long (lN r9)), (2, .int (nI p9)), (3, .int (nI 0))]) C dX8_isAtMost_18 (by decide) rfl rfl ?_
  refine r_ldc2 (q := 23) (v := lN 2) C dX8_isAtMost_20 q695 rfl ?_
  refine r_lload (q := 25) C 2 dX8_isAtMost_23 rfl rfl ?_
  refine r_lmul (q := 26) C dX8_isAtMost_25 rfl ?_
  refine r_tl (show ((lN 2) * (lN (zX r9)) : Int64) = lN (2 * (zX r9)) from lN_mul 2 (zX r9)) ?_
  refine r_lload (q := 28) C 1 dX8_isAtMost_26 rfl rfl ?_
  refine r_lmul (q := 29) C dX8_isAtMost_28 rfl ?_
  refine r_tl (show ((lN (2 * (zX r9))) * (lN (zY r9)) : Int64) = lN ((2 * (zX r9)) * (zY r9)) from lN_mul (2 * (zX r9)) (zY r9)) ?_
  refine r_lload (q := 31) C 0 dX8_isAtMost_29 rfl rfl ?_
  refine r_bipush (q := 33) C (nI 18) dX8_isAtMost_31 (by decide) rfl ?_
  refine r_lshr (q := 34) C dX8_isAtMost_33 rfl ?_
  refine r_tl (show ((lN (zV r9)) >>> ((nI 18).toInt64 &&& 63) : Int64) = lN ((zV r9) / 262144) from z18 (by omega)) ?_
  refine r_ladd (q := 35) C dX8_isAtMost_34 rfl ?_
  refine r_tl (show ((lN ((2 * (zX r9)) * (zY r9))) + (lN ((zV r9) / 262144)) : Int64) = lN ((2 * (zX r9)) * (zY r9) + ((zV r9) / 262144)) from lN_add ((2 * (zX r9)) * (zY r9)) ((zV r9) / 262144)) ?_
  refine r_tl (show (lN ((2 * (zX r9)) * (zY r9) + ((zV r9) / 262144)) : Int64) = lN (zT r9) from rfl) ?_
  refine r_lstore (q := 37) (lv' := [(10, .long (lN (zT r9))), (8, .long (lN (zV r9))), (6, .long (lN (zY r9))), (4, .long (lN (zX r9))), (0, .long (lN r9)), (2, .int (nI p9)), (3, .int (nI 0))]) C dX8_isAtMost_35 (by decide) rfl rfl ?_
  refine r_lload (q := 39) C 1 dX8_isAtMost_37 rfl rfl ?_
  refine r_ldc2 (q := 42) (v := lN 262143) C dX8_isAtMost_39 q699 rfl ?_
  refine r_land (q := 43) C dX8_isAtMost_42 rfl ?_
  refine r_tl (show ((lN (zV r9)) &&& (lN 262143) : Int64) = lN ((zV r9) % 262144) from zmk (by omega)) ?_
  refine r_tl (show (lN ((zV r9) % 262144) : Int64) = lN (zU r9) from rfl) ?_
  refine r_lstore (q := 45) (lv' := [(8, .long (lN (zU r9))), (10, .long (lN (zT r9))), (6, .long (lN (zY r9))), (4, .long (lN (zX r9))), (0, .long (lN r9)), (2, .int (nI p9)), (3, .int (nI 0))]) C dX8_isAtMost_43 (by decide) rfl rfl ?_
  refine r_lload (q := 47) C 3 dX8_isAtMost_45 rfl rfl ?_
  refine r_lload (q := 49) C 3 dX8_isAtMost_47 rfl rfl ?_
  refine r_lmul (q := 50) C dX8_isAtMost_49 rfl ?_
  refine r_tl (show ((lN (zX r9)) * (lN (zX r9)) : Int64) = lN ((zX r9) * (zX r9)) from lN_mul (zX r9) (zX r9)) ?_
  refine r_lload (q := 52) C 1 dX8_isAtMost_50 rfl rfl ?_
  refine r_bipush (q := 54) C (nI 18) dX8_isAtMost_52 (by decide) rfl ?_
  refine r_lshr (q := 55) C dX8_isAtMost_54 rfl ?_
  refine r_tl (show ((lN (zT r9)) >>> ((nI 18).toInt64 &&& 63) : Int64) = lN ((zT r9) / 262144) from z18 (by omega)) ?_
  refine r_ladd (q := 56) C dX8_isAtMost_55 rfl ?_
  refine r_tl (show ((lN ((zX r9) * (zX r9))) + (lN ((zT r9) / 262144)) : Int64) = lN ((zX r9) * (zX r9) + ((zT r9) / 262144)) from lN_add ((zX r9) * (zX r9)) ((zT r9) / 262144)) ?_
  refine r_tl (show (lN ((zX r9) * (zX r9) + ((zT r9) / 262144)) : Int64) = lN (zS r9) from rfl) ?_
  refine r_lstore (q := 58) (lv' := [(12, .long (lN (zS r9))), (8, .long (lN (zU r9))), (10, .long (lN (zT r9))), (6, .long (lN (zY r9))), (4, .long (lN (zX r9))), (0, .long (lN r9)), (2, .int (nI p9)), (3, .int (nI 0))]) C dX8_isAtMost_56 (by decide) rfl rfl ?_
  refine r_lload (q := 60) C 2 dX8_isAtMost_58 rfl rfl ?_
  refine r_ldc2 (q := 63) (v := lN 262143) C dX8_isAtMost_60 q699 rfl ?_
  refine r_land (q := 64) C dX8_isAtMost_63 rfl ?_
  refine r_tl (show ((lN (zT r9)) &&& (lN 262143) : Int64) = lN ((zT r9) % 262144) from zmk (by omega)) ?_
  refine r_tl (show (lN ((zT r9) % 262144) : Int64) = lN (zW r9) from rfl) ?_
  refine r_lstore (q := 66) (lv' := [(10, .long (lN (zW r9))), (12, .long (lN (zS r9))), (8, .long (lN (zU r9))), (6, .long (lN (zY r9))), (4, .long (lN (zX r9))), (0, .long (lN r9)), (2, .int (nI p9)), (3, .int (nI 0))]) C dX8_isAtMost_64 (by decide) rfl rfl ?_
  refine r_iload_n (q := 67) C 7 dX8_isAtMost_66 rfl rfl ?_
  refine r_if_ne_f (q := 70) (tgt := 108) C dX8_isAtMost_67 (by decide) rfl (by decide) ?_
  refine r_lload (q := 72) C 1 dX8_isAtMost_70 rfl rfl ?_
  refine r_iload_n (q := 73) C 6 dX8_isAtMost_72 rfl rfl ?_
  refine r_i2l (q := 74) C dX8_isAtMost_73 rfl ?_
  refine r_tl (show ((nI p9).toInt64 : Int64) = lN p9 from nI_l (by omega)) ?_
  refine r_bipush (q := 76) C (nI 28) dX8_isAtMost_74 (by decide) rfl ?_
  refine r_lshl (q := 77) C dX8_isAtMost_76 rfl ?_
  refine r_tl (show ((lN p9) <<< ((nI 28).toInt64 &&& 63) : Int64) = lN (p9 * 268435456) from wb_shl p9 (k := 28) (by decide)) ?_
  refine r_lcmp_lt (q := 78) (q2 := 81) (tgt := 102) C dX8_isAtMost_77 rfl dX8_isAtMost_78 (by decide) rfl (fun hc1 => ?_) (fun hc1 => ?_)
  · have hc1 : (zS r9) < (p9 * 268435456) := (pk_lLT (a := (zS r9)) (b := (p9 * 268435456)) (by omega) (by omega)).mp hc1
    refine r_iconst (q := 103) C (nI 1) dX8_isAtMost_102 (by decide) rfl ?_
    refine r_goto (tgt := 107) C dX8_isAtMost_103 (by decide) ?_
    exact r_zret C rfl rfl (by decide) (by decide) dX8_isAtMost_107 ⟨by rw [sqA_y (Or.inl hc1)]; rfl, rfl⟩
  · have hc1 : ¬ (zS r9) < (p9 * 268435456) := fun z => hc1 ((pk_lLT (a := (zS r9)) (b := (p9 * 268435456)) (by omega) (by omega)).mpr z)
    refine r_lload (q := 83) C 1 dX8_isAtMost_81 rfl rfl ?_
    refine r_iload_n (q := 84) C 6 dX8_isAtMost_83 rfl rfl ?_
    refine r_i2l (q := 85) C dX8_isAtMost_84 rfl ?_
    refine r_tl (show ((nI p9).toInt64 : Int64) = lN p9 from nI_l (by omega)) ?_
    refine r_bipush (q := 87) C (nI 28) dX8_isAtMost_85 (by decide) rfl ?_
    refine r_lshl (q := 88) C dX8_isAtMost_87 rfl ?_
    refine r_tl (show ((lN p9) <<< ((nI 28).toInt64 &&& 63) : Int64) = lN (p9 * 268435456) from wb_shl p9 (k := 28) (by decide)) ?_
    refine r_lcmp_ne (q := 89) (q2 := 92) (tgt := 106) C dX8_isAtMost_88 rfl dX8_isAtMost_89 (by decide) rfl (fun hc4 => ?_) (fun hc4 => ?_)
    · have hc4 : ¬ (zS r9) = (p9 * 268435456) := fun z => hc4 ((pk_lEQ (a := (zS r9)) (b := (p9 * 268435456)) (by omega) (by omega)).mpr z)
      refine r_iconst (q := 107) C (nI 0) dX8_isAtMost_106 (by decide) rfl ?_
      exact r_zret C rfl rfl (by decide) (by decide) dX8_isAtMost_107 ⟨by rw [sqA_n (fun z => z.elim hc1 (fun q => hc4 q.1))]; rfl, rfl⟩
    · have hc4 : (zS r9) = (p9 * 268435456) := (pk_lEQ (a := (zS r9)) (b := (p9 * 268435456)) (by omega) (by omega)).mp hc4
      refine r_lload (q := 94) C 0 dX8_isAtMost_92 rfl rfl ?_
      refine r_lload (q := 96) C 2 dX8_isAtMost_94 rfl rfl ?_
      refine r_ladd (q := 97) C dX8_isAtMost_96 rfl ?_
      refine r_tl (show ((lN (zW r9)) + (lN (zU r9)) : Int64) = lN (zW r9 + (zU r9)) from lN_add (zW r9) (zU r9)) ?_
      refine r_lconst (q := 98) C (lN 0) dX8_isAtMost_97 (by decide) rfl ?_
      refine r_lcmp_ne (q := 99) (q2 := 102) (tgt := 106) C dX8_isAtMost_98 rfl dX8_isAtMost_99 (by decide) rfl (fun hc7 => ?_) (fun hc7 => ?_)
      · have hc7 : ¬ (zW r9 + (zU r9)) = 0 := fun z => hc7 ((pk_lEQ (a := (zW r9 + (zU r9))) (b := 0) (by omega) (by omega)).mpr z)
        refine r_iconst (q := 107) C (nI 0) dX8_isAtMost_106 (by decide) rfl ?_
        exact r_zret C rfl rfl (by decide) (by decide) dX8_isAtMost_107 ⟨by rw [sqA_n (fun z => z.elim hc1 (fun q => hc7 q.2))]; rfl, rfl⟩
      · have hc7 : (zW r9 + (zU r9)) = 0 := (pk_lEQ (a := (zW r9 + (zU r9))) (b := 0) (by omega) (by omega)).mp hc7
        refine r_iconst (q := 103) C (nI 1) dX8_isAtMost_102 (by decide) rfl ?_
        refine r_goto (tgt := 107) C dX8_isAtMost_103 (by decide) ?_
        exact r_zret C rfl rfl (by decide) (by decide) dX8_isAtMost_107 ⟨by rw [sqA_y (Or.inr ⟨hc4, hc7⟩)]; rfl, rfl⟩

set_option maxHeartbeats 4000000 in
set_option maxRecDepth 20000 in
theorem m_iam_c {l : Launch} {g : cx_G} {w : wd_T} {p9 r9 : Nat} (hp : p9 ≤ 400) (hr : r9 ≤ 68719476736) : Mt l g yX8_isAtMost cX8_isAtMost 24 (some .boolean) 0 0 0 w [.long (lN r9), .int (nI p9), .int (nI 1)] (fun v w' => v = some (.int (nI (b9 (cuA p9 r9)))) ∧ w = w') := by
  refine mt_of RX8 "isAtMost" rfl rfl (by decide) (Nat.le_of_ble_eq_true rfl) [(0, .long (lN r9)), (2, .int (nI p9)), (3, .int (nI 1))] rfl ?_
  intro k hkl C hin
  subst hkl
  obtain ⟨bX, bY, bV, bT, bU, bS, bW, bA, bB, bC, bD, bL⟩ := z_b hr
  refine r_lload_n (q := 1) C 0 dX8_isAtMost_0 rfl rfl ?_
  refine r_bipush (q := 3) C (nI 18) dX8_isAtMost_1 (by decide) rfl ?_
  refine r_lshr (q := 4) C dX8_isAtMost_3 rfl ?_
  refine r_tl (show ((lN r9) >>> ((nI 18).toInt64 &&& 63) : Int64) = lN (r9 / 262144) from z18 (by omega)) ?_
  refine r_tl (show (lN (r9 / 262144) : Int64) = lN (zX r9) from rfl) ?_
  refine r_lstore (q := 6) (lv' := [(4, .long (lN (zX r9))), (0, .long (lN r9)), (2, .int (nI p9)), (3, .int (nI 1))]) C dX8_isAtMost_4 (by decide) rfl rfl ?_
  refine r_lload_n (q := 7) C 1 dX8_isAtMost_6 rfl rfl ?_
  refine r_ldc2 (q := 10) (v := lN 262143) C dX8_isAtMost_7 q699 rfl ?_
  refine r_land (q := 11) C dX8_isAtMost_10 rfl ?_
  refine r_tl (show ((lN r9) &&& (lN 262143) : Int64) = lN (r9 % 262144) from zmk (by omega)) ?_
  refine r_tl (show (lN (r9 % 262144) : Int64) = lN (zY r9) from rfl) ?_
  refine r_lstore (q := 13) (lv' := [(6, .long (lN (zY r9))), (4, .long (lN (zX r9))), (0, .long (lN r9)), (2, .int (nI p9)), (3, .int (nI 1))]) C dX8_isAtMost_11 (by decide) rfl rfl ?_
  refine r_lload (q := 15) C 0 dX8_isAtMost_13 rfl rfl ?_
  refine r_lload (q := 17) C 0 dX8_isAtMost_15 rfl rfl ?_
  refine r_lmul (q := 18) C dX8_isAtMost_17 rfl ?_
  refine r_tl (show ((lN (zY r9)) * (lN (zY r9)) : Int64) = lN ((zY r9) * (zY r9)) from lN_mul (zY r9) (zY r9)) ?_
  refine r_tl (show (lN ((zY r9) * (zY r9)) : Int64) = lN (zV r9) from rfl) ?_
  refine r_lstore (q := 20) (lv' := [(8, .long (lN (zV r9))), (6, .long (lN (zY r9))), (4, .long (lN (zX r9))), (0, .long (lN r9)), (2, .int (nI p9)), (3, .int (nI 1))]) C dX8_isAtMost_18 (by decide) rfl rfl ?_
  refine r_ldc2 (q := 23) (v := lN 2) C dX8_isAtMost_20 q695 rfl ?_
  refine r_lload (q := 25) C 2 dX8_isAtMost_23 rfl rfl ?_
  refine r_lmul (q := 26) C dX8_isAtMost_25 rfl ?_
  refine r_tl (show ((lN 2) * (lN (zX r9)) : Int64) = lN (2 * (zX r9)) from lN_mul 2 (zX r9)) ?_
  refine r_lload (q := 28) C 1 dX8_isAtMost_26 rfl rfl ?_
  refine r_lmul (q := 29) C dX8_isAtMost_28 rfl ?_
  refine r_tl (show ((lN (2 * (zX r9))) * (lN (zY r9)) : Int64) = lN ((2 * (zX r9)) * (zY r9)) from lN_mul (2 * (zX r9)) (zY r9)) ?_
  refine r_lload (q := 31) C 0 dX8_isAtMost_29 rfl rfl ?_
  refine r_bipush (q := 33) C (nI 18) dX8_isAtMost_31 (by decide) rfl ?_
  refine r_lshr (q := 34) C dX8_isAtMost_33 rfl ?_
  refine r_tl (show ((lN (zV r9)) >>> ((nI 18).toInt64 &&& 63) : Int64) = lN ((zV r9) / 262144) from z18 (by omega)) ?_
  refine r_ladd (q := 35) C dX8_isAtMost_34 rfl ?_
  refine r_tl (show ((lN ((2 * (zX r9)) * (zY r9))) + (lN ((zV r9) / 262144)) : Int64) = lN ((2 * (zX r9)) * (zY r9) + ((zV r9) / 262144)) from lN_add ((2 * (zX r9)) * (zY r9)) ((zV r9) / 262144)) ?_
  refine r_tl (show (lN ((2 * (zX r9)) * (zY r9) + ((zV r9) / 262144)) : Int64) = lN (zT r9) from rfl) ?_
  refine r_lstore (q := 37) (lv' := [(10, .long (lN (zT r9))), (8, .long (lN (zV r9))), (6, .long (lN (zY r9))), (4, .long (lN (zX r9))), (0, .long (lN r9)), (2, .int (nI p9)), (3, .int (nI 1))]) C dX8_isAtMost_35 (by decide) rfl rfl ?_
  refine r_lload (q := 39) C 1 dX8_isAtMost_37 rfl rfl ?_
  refine r_ldc2 (q := 42) (v := lN 262143) C dX8_isAtMost_39 q699 rfl ?_
  refine r_land (q := 43) C dX8_isAtMost_42 rfl ?_
  refine r_tl (show ((lN (zV r9)) &&& (lN 262143) : Int64) = lN ((zV r9) % 262144) from zmk (by omega)) ?_
  refine r_tl (show (lN ((zV r9) % 262144) : Int64) = lN (zU r9) from rfl) ?_
  refine r_lstore (q := 45) (lv' := [(8, .long (lN (zU r9))), (10, .long (lN (zT r9))), (6, .long (lN (zY r9))), (4, .long (lN (zX r9))), (0, .long (lN r9)), (2, .int (nI p9)), (3, .int (nI 1))]) C dX8_isAtMost_43 (by decide) rfl rfl ?_
  refine r_lload (q := 47) C 3 dX8_isAtMost_45 rfl rfl ?_
  refine r_lload (q := 49) C 3 dX8_isAtMost_47 rfl rfl ?_
  refine r_lmul (q := 50) C dX8_isAtMost_49 rfl ?_
  refine r_tl (show ((lN (zX r9)) * (lN (zX r9)) : Int64) = lN ((zX r9) * (zX r9)) from lN_mul (zX r9) (zX r9)) ?_
  refine r_lload (q := 52) C 1 dX8_isAtMost_50 rfl rfl ?_
  refine r_bipush (q := 54) C (nI 18) dX8_isAtMost_52 (by decide) rfl ?_
  refine r_lshr (q := 55) C dX8_isAtMost_54 rfl ?_
  refine r_tl (show ((lN (zT r9)) >>> ((nI 18).toInt64 &&& 63) : Int64) = lN ((zT r9) / 262144) from z18 (by omega)) ?_
  refine r_ladd (q := 56) C dX8_isAtMost_55 rfl ?_
  refine r_tl (show ((lN ((zX r9) * (zX r9))) + (lN ((zT r9) / 262144)) : Int64) = lN ((zX r9) * (zX r9) + ((zT r9) / 262144)) from lN_add ((zX r9) * (zX r9)) ((zT r9) / 262144)) ?_
  refine r_tl (show (lN ((zX r9) * (zX r9) + ((zT r9) / 262144)) : Int64) = lN (zS r9) from rfl) ?_
  refine r_lstore (q := 58) (lv' := [(12, .long (lN (zS r9))), (8, .long (lN (zU r9))), (10, .long (lN (zT r9))), (6, .long (lN (zY r9))), (4, .long (lN (zX r9))), (0, .long (lN r9)), (2, .int (nI p9)), (3, .int (nI 1))]) C dX8_isAtMost_56 (by decide) rfl rfl ?_
  refine r_lload (q := 60) C 2 dX8_isAtMost_58 rfl rfl ?_
  refine r_ldc2 (q := 63) (v := lN 262143) C dX8_isAtMost_60 q699 rfl ?_
  refine r_land (q := 64) C dX8_isAtMost_63 rfl ?_
  refine r_tl (show ((lN (zT r9)) &&& (lN 262143) : Int64) = lN ((zT r9) % 262144) from zmk (by omega)) ?_
  refine r_tl (show (lN ((zT r9) % 262144) : Int64) = lN (zW r9) from rfl) ?_
  refine r_lstore (q := 66) (lv' := [(10, .long (lN (zW r9))), (12, .long (lN (zS r9))), (8, .long (lN (zU r9))), (6, .long (lN (zY r9))), (4, .long (lN (zX r9))), (0, .long (lN r9)), (2, .int (nI p9)), (3, .int (nI 1))]) C dX8_isAtMost_64 (by decide) rfl rfl ?_
  refine r_iload_n (q := 67) C 7 dX8_isAtMost_66 rfl rfl ?_
  refine r_if_ne_t (tgt := 108) C dX8_isAtMost_67 (by decide) (by decide) ?_
  refine r_lload (q := 110) C 2 dX8_isAtMost_108 rfl rfl ?_
  refine r_lload (q := 112) C 3 dX8_isAtMost_110 rfl rfl ?_
  refine r_lmul (q := 113) C dX8_isAtMost_112 rfl ?_
  refine r_tl (show ((lN (zU r9)) * (lN (zY r9)) : Int64) = lN ((zU r9) * (zY r9)) from lN_mul (zU r9) (zY r9)) ?_
  refine r_tl (show (lN ((zU r9) * (zY r9)) : Int64) = lN (zA r9) from rfl) ?_
  refine r_lstore (q := 115) (lv' := [(14, .long (lN (zA r9))), (10, .long (lN (zW r9))), (12, .long (lN (zS r9))), (8, .long (lN (zU r9))), (6, .long (lN (zY r9))), (4, .long (lN (zX r9))), (0, .long (lN r9)), (2, .int (nI p9)), (3, .int (nI 1))]) C dX8_isAtMost_113 (by decide) rfl rfl ?_
  refine r_lload (q := 117) C 3 dX8_isAtMost_115 rfl rfl ?_
  refine r_lload (q := 119) C 5 dX8_isAtMost_117 rfl rfl ?_
  refine r_lmul (q := 120) C dX8_isAtMost_119 rfl ?_
  refine r_tl (show ((lN (zU r9)) * (lN (zX r9)) : Int64) = lN ((zU r9) * (zX r9)) from lN_mul (zU r9) (zX r9)) ?_
  refine r_lload (q := 122) C 1 dX8_isAtMost_120 rfl rfl ?_
  refine r_lload (q := 124) C 4 dX8_isAtMost_122 rfl rfl ?_
  refine r_lmul (q := 125) C dX8_isAtMost_124 rfl ?_
  refine r_tl (show ((lN (zW r9)) * (lN (zY r9)) : Int64) = lN ((zW r9) * (zY r9)) from lN_mul (zW r9) (zY r9)) ?_
  refine r_ladd (q := 126) C dX8_isAtMost_125 rfl ?_
  refine r_tl (show ((lN ((zU r9) * (zX r9))) + (lN ((zW r9) * (zY r9))) : Int64) = lN ((zU r9) * (zX r9) + ((zW r9) * (zY r9))) from lN_add ((zU r9) * (zX r9)) ((zW r9) * (zY r9))) ?_
  refine r_lload (q := 128) C 0 dX8_isAtMost_126 rfl rfl ?_
  refine r_bipush (q := 130) C (nI 18) dX8_isAtMost_128 (by decide) rfl ?_
  refine r_lshr (q := 131) C dX8_isAtMost_130 rfl ?_
  refine r_tl (show ((lN (zA r9)) >>> ((nI 18).toInt64 &&& 63) : Int64) = lN ((zA r9) / 262144) from z18 (by omega)) ?_
  refine r_ladd (q := 132) C dX8_isAtMost_131 rfl ?_
  refine r_tl (show ((lN ((zU r9) * (zX r9) + ((zW r9) * (zY r9)))) + (lN ((zA r9) / 262144)) : Int64) = lN ((zU r9) * (zX r9) + ((zW r9) * (zY r9)) + ((zA r9) / 262144)) from lN_add ((zU r9) * (zX r9) + ((zW r9) * (zY r9))) ((zA r9) / 262144)) ?_
  refine r_tl (show (lN ((zU r9) * (zX r9) + ((zW r9) * (zY r9)) + ((zA r9) / 262144)) : Int64) = lN (zB r9) from rfl) ?_
  refine r_lstore (q := 134) (lv' := [(16, .long (lN (zB r9))), (14, .long (lN (zA r9))), (10, .long (lN (zW r9))), (12, .long (lN (zS r9))), (8, .long (lN (zU r9))), (6, .long (lN (zY r9))), (4, .long (lN (zX r9))), (0, .long (lN r9)), (2, .int (nI p9)), (3, .int (nI 1))]) C dX8_isAtMost_132 (by decide) rfl rfl ?_
  refine r_lload (q := 136) C 2 dX8_isAtMost_134 rfl rfl ?_
  refine r_lload (q := 138) C 6 dX8_isAtMost_136 rfl rfl ?_
  refine r_lmul (q := 139) C dX8_isAtMost_138 rfl ?_
  refine r_tl (show ((lN (zW r9)) * (lN (zX r9)) : Int64) = lN ((zW r9) * (zX r9)) from lN_mul (zW r9) (zX r9)) ?_
  refine r_lload (q := 141) C 3 dX8_isAtMost_139 rfl rfl ?_
  refine r_lload (q := 143) C 5 dX8_isAtMost_141 rfl rfl ?_
  refine r_lmul (q := 144) C dX8_isAtMost_143 rfl ?_
  refine r_tl (show ((lN (zS r9)) * (lN (zY r9)) : Int64) = lN ((zS r9) * (zY r9)) from lN_mul (zS r9) (zY r9)) ?_
  refine r_ladd (q := 145) C dX8_isAtMost_144 rfl ?_
  refine r_tl (show ((lN ((zW r9) * (zX r9))) + (lN ((zS r9) * (zY r9))) : Int64) = lN ((zW r9) * (zX r9) + ((zS r9) * (zY r9))) from lN_add ((zW r9) * (zX r9)) ((zS r9) * (zY r9))) ?_
  refine r_lload (q := 147) C 0 dX8_isAtMost_145 rfl rfl ?_
  refine r_bipush (q := 149) C (nI 18) dX8_isAtMost_147 (by decide) rfl ?_
  refine r_lshr (q := 150) C dX8_isAtMost_149 rfl ?_
  refine r_tl (show ((lN (zB r9)) >>> ((nI 18).toInt64 &&& 63) : Int64) = lN ((zB r9) / 262144) from z18 (by omega)) ?_
  refine r_ladd (q := 151) C dX8_isAtMost_150 rfl ?_
  refine r_tl (show ((lN ((zW r9) * (zX r9) + ((zS r9) * (zY r9)))) + (lN ((zB r9) / 262144)) : Int64) = lN ((zW r9) * (zX r9) + ((zS r9) * (zY r9)) + ((zB r9) / 262144)) from lN_add ((zW r9) * (zX r9) + ((zS r9) * (zY r9))) ((zB r9) / 262144)) ?_
  refine r_tl (show (lN ((zW r9) * (zX r9) + ((zS r9) * (zY r9)) + ((zB r9) / 262144)) : Int64) = lN (zC r9) from rfl) ?_
  refine r_lstore (q := 153) (lv' := [(18, .long (lN (zC r9))), (16, .long (lN (zB r9))), (14, .long (lN (zA r9))), (10, .long (lN (zW r9))), (12, .long (lN (zS r9))), (8, .long (lN (zU r9))), (6, .long (lN (zY r9))), (4, .long (lN (zX r9))), (0, .long (lN r9)), (2, .int (nI p9)), (3, .int (nI 1))]) C dX8_isAtMost_151 (by decide) rfl rfl ?_
  refine r_lload (q := 155) C 4 dX8_isAtMost_153 rfl rfl ?_
  refine r_lload (q := 157) C 7 dX8_isAtMost_155 rfl rfl ?_
  refine r_lmul (q := 158) C dX8_isAtMost_157 rfl ?_
  refine r_tl (show ((lN (zS r9)) * (lN (zX r9)) : Int64) = lN ((zS r9) * (zX r9)) from lN_mul (zS r9) (zX r9)) ?_
  refine r_lload (q := 160) C 0 dX8_isAtMost_158 rfl rfl ?_
  refine r_bipush (q := 162) C (nI 18) dX8_isAtMost_160 (by decide) rfl ?_
  refine r_lshr (q := 163) C dX8_isAtMost_162 rfl ?_
  refine r_tl (show ((lN (zC r9)) >>> ((nI 18).toInt64 &&& 63) : Int64) = lN ((zC r9) / 262144) from z18 (by omega)) ?_
  refine r_ladd (q := 164) C dX8_isAtMost_163 rfl ?_
  refine r_tl (show ((lN ((zS r9) * (zX r9))) + (lN ((zC r9) / 262144)) : Int64) = lN ((zS r9) * (zX r9) + ((zC r9) / 262144)) from lN_add ((zS r9) * (zX r9)) ((zC r9) / 262144)) ?_
  refine r_tl (show (lN ((zS r9) * (zX r9) + ((zC r9) / 262144)) : Int64) = lN (zD r9) from rfl) ?_
  refine r_lstore (q := 166) (lv' := [(20, .long (lN (zD r9))), (18, .long (lN (zC r9))), (16, .long (lN (zB r9))), (14, .long (lN (zA r9))), (10, .long (lN (zW r9))), (12, .long (lN (zS r9))), (8, .long (lN (zU r9))), (6, .long (lN (zY r9))), (4, .long (lN (zX r9))), (0, .long (lN r9)), (2, .int (nI p9)), (3, .int (nI 1))]) C dX8_isAtMost_164 (by decide) rfl rfl ?_
  refine r_lload (q := 168) C 3 dX8_isAtMost_166 rfl rfl ?_
  refine r_ldc2 (q := 171) (v := lN 262143) C dX8_isAtMost_168 q699 rfl ?_
  refine r_land (q := 172) C dX8_isAtMost_171 rfl ?_
  refine r_tl (show ((lN (zA r9)) &&& (lN 262143) : Int64) = lN ((zA r9) % 262144) from zmk (by omega)) ?_
  refine r_lload (q := 174) C 2 dX8_isAtMost_172 rfl rfl ?_
  refine r_ldc2 (q := 177) (v := lN 262143) C dX8_isAtMost_174 q699 rfl ?_
  refine r_land (q := 178) C dX8_isAtMost_177 rfl ?_
  refine r_tl (show ((lN (zB r9)) &&& (lN 262143) : Int64) = lN ((zB r9) % 262144) from zmk (by omega)) ?_
  refine r_ladd (q := 179) C dX8_isAtMost_178 rfl ?_
  refine r_tl (show ((lN ((zA r9) % 262144)) + (lN ((zB r9) % 262144)) : Int64) = lN ((zA r9) % 262144 + ((zB r9) % 262144)) from lN_add ((zA r9) % 262144) ((zB r9) % 262144)) ?_
  refine r_lload (q := 181) C 1 dX8_isAtMost_179 rfl rfl ?_
  refine r_ldc2 (q := 184) (v := lN 262143) C dX8_isAtMost_181 q699 rfl ?_
  refine r_land (q := 185) C dX8_isAtMost_184 rfl ?_
  refine r_tl (show ((lN (zC r9)) &&& (lN 262143) : Int64) = lN ((zC r9) % 262144) from zmk (by omega)) ?_
  refine r_ladd (q := 186) C dX8_isAtMost_185 rfl ?_
  refine r_tl (show ((lN ((zA r9) % 262144 + ((zB r9) % 262144))) + (lN ((zC r9) % 262144)) : Int64) = lN ((zA r9) % 262144 + ((zB r9) % 262144) + ((zC r9) % 262144)) from lN_add ((zA r9) % 262144 + ((zB r9) % 262144)) ((zC r9) % 262144)) ?_
  refine r_tl (show (lN ((zA r9) % 262144 + ((zB r9) % 262144) + ((zC r9) % 262144)) : Int64) = lN (zL r9) from rfl) ?_
  refine r_lstore (q := 188) (lv' := [(22, .long (lN (zL r9))), (20, .long (lN (zD r9))), (18, .long (lN (zC r9))), (16, .long (lN (zB r9))), (14, .long (lN (zA r9))), (10, .long (lN (zW r9))), (12, .long (lN (zS r9))), (8, .long (lN (zU r9))), (6, .long (lN (zY r9))), (4, .long (lN (zX r9))), (0, .long (lN r9)), (2, .int (nI p9)), (3, .int (nI 1))]) C dX8_isAtMost_186 (by decide) rfl rfl ?_
  refine r_lload (q := 190) C 1 dX8_isAtMost_188 rfl rfl ?_
  refine r_iload_n (q := 191) C 11 dX8_isAtMost_190 rfl rfl ?_
  refine r_i2l (q := 192) C dX8_isAtMost_191 rfl ?_
  refine r_tl (show ((nI p9).toInt64 : Int64) = lN p9 from nI_l (by omega)) ?_
  refine r_bipush (q := 194) C (nI 42) dX8_isAtMost_192 (by decide) rfl ?_
  refine r_lshl (q := 195) C dX8_isAtMost_194 rfl ?_
  refine r_tl (show ((lN p9) <<< ((nI 42).toInt64 &&& 63) : Int64) = lN (p9 * 4398046511104) from wb_shl p9 (k := 42) (by decide)) ?_
  refine r_lcmp_lt (q := 196) (q2 := 199) (tgt := 217) C dX8_isAtMost_195 rfl dX8_isAtMost_196 (by decide) rfl (fun hc1 => ?_) (fun hc1 => ?_)
  · have hc1 : (zD r9) < (p9 * 4398046511104) := (pk_lLT (a := (zD r9)) (b := (p9 * 4398046511104)) (by omega) (by omega)).mp hc1
    refine r_iconst (q := 218) C (nI 1) dX8_isAtMost_217 (by decide) rfl ?_
    refine r_goto (tgt := 222) C dX8_isAtMost_218 (by decide) ?_
    exact r_zret C rfl rfl (by decide) (by decide) dX8_isAtMost_222 ⟨by rw [cuA_y (Or.inl hc1)]; rfl, rfl⟩
  · have hc1 : ¬ (zD r9) < (p9 * 4398046511104) := fun z => hc1 ((pk_lLT (a := (zD r9)) (b := (p9 * 4398046511104)) (by omega) (by omega)).mpr z)
    refine r_lload (q := 201) C 1 dX8_isAtMost_199 rfl rfl ?_
    refine r_iload_n (q := 202) C 11 dX8_isAtMost_201 rfl rfl ?_
    refine r_i2l (q := 203) C dX8_isAtMost_202 rfl ?_
    refine r_tl (show ((nI p9).toInt64 : Int64) = lN p9 from nI_l (by omega)) ?_
    refine r_bipush (q := 205) C (nI 42) dX8_isAtMost_203 (by decide) rfl ?_
    refine r_lshl (q := 206) C dX8_isAtMost_205 rfl ?_
    refine r_tl (show ((lN p9) <<< ((nI 42).toInt64 &&& 63) : Int64) = lN (p9 * 4398046511104) from wb_shl p9 (k := 42) (by decide)) ?_
    refine r_lcmp_ne (q := 207) (q2 := 210) (tgt := 221) C dX8_isAtMost_206 rfl dX8_isAtMost_207 (by decide) rfl (fun hc4 => ?_) (fun hc4 => ?_)
    · have hc4 : ¬ (zD r9) = (p9 * 4398046511104) := fun z => hc4 ((pk_lEQ (a := (zD r9)) (b := (p9 * 4398046511104)) (by omega) (by omega)).mpr z)
      refine r_iconst (q := 222) C (nI 0) dX8_isAtMost_221 (by decide) rfl ?_
      exact r_zret C rfl rfl (by decide) (by decide) dX8_isAtMost_222 ⟨by rw [cuA_n (fun z => z.elim hc1 (fun q => hc4 q.1))]; rfl, rfl⟩
    · have hc4 : (zD r9) = (p9 * 4398046511104) := (pk_lEQ (a := (zD r9)) (b := (p9 * 4398046511104)) (by omega) (by omega)).mp hc4
      refine r_lload (q := 212) C 0 dX8_isAtMost_210 rfl rfl ?_
      refine r_lconst (q := 213) C (lN 0) dX8_isAtMost_212 (by decide) rfl ?_
      refine r_lcmp_ne (q := 214) (q2 := 217) (tgt := 221) C dX8_isAtMost_213 rfl dX8_isAtMost_214 (by decide) rfl (fun hc7 => ?_) (fun hc7 => ?_)
      · have hc7 : ¬ (zL r9) = 0 := fun z => hc7 ((pk_lEQ (a := (zL r9)) (b := 0) (by omega) (by omega)).mpr z)
        refine r_iconst (q := 222) C (nI 0) dX8_isAtMost_221 (by decide) rfl ?_
        exact r_zret C rfl rfl (by decide) (by decide) dX8_isAtMost_222 ⟨by rw [cuA_n (fun z => z.elim hc1 (fun q => hc7 q.2))]; rfl, rfl⟩
      · have hc7 : (zL r9) = 0 := (pk_lEQ (a := (zL r9)) (b := 0) (by omega) (by omega)).mp hc7
        refine r_iconst (q := 218) C (nI 1) dX8_isAtMost_217 (by decide) rfl ?_
        refine r_goto (tgt := 222) C dX8_isAtMost_218 (by decide) ?_
        exact r_zret C rfl rfl (by decide) (by decide) dX8_isAtMost_222 ⟨by rw [cuA_y (Or.inr ⟨hc4, hc7⟩)]; rfl, rfl⟩

set_option maxHeartbeats 4000000 in
set_option maxRecDepth 20000 in
theorem m_root_s {l : Launch} {g : cx_G} {w : wd_T} {p9 : Nat} (hp : p9 ≤ 400) : Mt l g yX8_rootOf cX8_rootOf 8 (some .int) 2 0 0 w [.int (nI p9), .int (nI 0)] (fun v w' => v = some (.int (nI (bs9 (sqA p9) 36 0))) ∧ w = w') := by
  refine mt_of RX8 "rootOf" rfl rfl (by decide) (Nat.le_of_ble_eq_true rfl) [(0, .int (nI p9)), (1, .int (nI 0))] rfl ?_
  intro k hkl C hin
  subst hkl
  refine r_lconst (q := 1) C (lN 0) dX8_rootOf_0 (by decide) rfl ?_
  refine r_lstore_n (q := 2) (lv' := [(2, .long (lN 0)), (0, .int (nI p9)), (1, .int (nI 0))]) C dX8_rootOf_1 (by decide) rfl rfl ?_
  refine r_ldc2 (q := 5) (v := lN 68719476736) C dX8_rootOf_2 q694 rfl ?_
  refine r_lstore (q := 7) (lv' := [(4, .long (lN 68719476736)), (2, .long (lN 0)), (0, .int (nI p9)), (1, .int (nI 0))]) C dX8_rootOf_5 (by decide) rfl rfl ?_
  refine r_sub (lv' := [(2, .long (lN 0)), (4, .long (lN 68719476736)), (0, .int (nI p9)), (1, .int (nI 0))]) [1, 0, 2, 3] rfl ?_
  have loop : ∀ (r low : Nat)  , (low + 2 ^ r ≤ 68719476736) → (bs9 (sqA p9) r low = bs9 (sqA p9) 36 0) → V g k 8 w 0 0 (kQ g k (fun v w' => v = some (.int (nI (bs9 (sqA p9) 36 0))) ∧ w = w') 0 0) 7 [(2, .long (lN low)), (4, .long (lN (low + 2 ^ r))), (0, .int (nI p9)), (1, .int (nI 0))] [] := by
    intro r
    induction r with
    | zero =>
      intro low   hi ha
      refine r_lload (q := 9) C 1 dX8_rootOf_7 rfl rfl ?_
      refine r_lload_n (q := 10) C 0 dX8_rootOf_9 rfl rfl ?_
      refine r_lsub (q := 11) C dX8_rootOf_10 rfl ?_
      refine r_tl (show ((lN (low + 2 ^ 0)) - (lN low) : Int64) = lN (low + 2 ^ 0 - low) from lN_sub (by omega)) ?_
      refine r_lconst (q := 12) C (lN 1) dX8_rootOf_11 (by decide) rfl ?_
      refine r_lcmp_le (q := 13) (q2 := 16) (tgt := 49) C dX8_rootOf_12 rfl dX8_rootOf_13 (by decide) rfl (fun _ => ?_) (fun hz1 => absurd ((pk_lLE (a := (low + 2 ^ 0 - low)) (b := 1) (by omega) (by omega)).mpr (by have : 2 ^ 0 = 1 := rfl; omega)) (by first | exact hz1 | exact fun zz => zz hz1))
      refine r_lload_n (q := 50) C 0 dX8_rootOf_49 rfl rfl ?_
      refine r_l2i (q := 51) C dX8_rootOf_50 rfl ?_
      refine r_ti (show ((lN low).toInt32 : Int32) = nI low from lN_i low) ?_
      exact r_iret C rfl (by decide) (by decide) dX8_rootOf_51 ⟨by rw [← ha]; rfl, rfl⟩
    | succ r ih =>
      intro low   hi ha
      have h2 : 2 ^ (r + 1) = 2 ^ r + 2 ^ r := by rw [Nat.pow_succ]; omega
      have h3 : 0 < 2 ^ r := Nat.pow_pos (by decide)
      obtain ⟨u9, hu⟩ : ∃ u9, u9 = 2 ^ r := ⟨_, rfl⟩
      rw [h2, ← hu] at hi
      rw [h2, ← hu]
      rw [← hu] at h3
      refine r_lload (q := 9) C 1 dX8_rootOf_7 rfl rfl ?_
      refine r_lload_n (q := 10) C 0 dX8_rootOf_9 rfl rfl ?_
      refine r_lsub (q := 11) C dX8_rootOf_10 rfl ?_
      refine r_tl (show ((lN (low + (u9 + u9))) - (lN low) : Int64) = lN (low + (u9 + u9) - low) from lN_sub (by omega)) ?_
      refine r_lconst (q := 12) C (lN 1) dX8_rootOf_11 (by decide) rfl ?_
      refine r_lcmp_le (q := 13) (q2 := 16) (tgt := 49) C dX8_rootOf_12 rfl dX8_rootOf_13 (by decide) rfl (fun hz3 => absurd (fun z => absurd ((pk_lLE (a := (low + (u9 + u9) - low)) (b := 1) (by omega) (by omega)).mp z) (by omega)) (by first | exact hz3 | exact fun zz => zz hz3)) (fun _ => ?_)
      refine r_lload_n (q := 17) C 0 dX8_rootOf_16 rfl rfl ?_
      refine r_lload (q := 19) C 1 dX8_rootOf_17 rfl rfl ?_
      refine r_ladd (q := 20) C dX8_rootOf_19 rfl ?_
      refine r_tl (show ((lN low) + (lN (low + (u9 + u9))) : Int64) = lN (low + (low + (u9 + u9))) from lN_add low (low + (u9 + u9))) ?_
      refine r_ldc2 (q := 23) (v := lN 2) C dX8_rootOf_20 q695 rfl ?_
      refine r_ldiv (q := 24) C dX8_rootOf_23 (by decide) rfl ?_
      refine r_tl (show ((lN (low + (low + (u9 + u9)))) / (lN 2) : Int64) = lN ((low + (low + (u9 + u9))) / 2) from pk_lDiv (by omega) (by omega) (by omega)) ?_
      refine r_tl (show (lN ((low + (low + (u9 + u9))) / 2) : Int64) = lN (low + u9) from by rw [show (low + (low + (u9 + u9))) / 2 = low + u9 by omega]) ?_
      refine r_lstore (q := 26) (lv' := [(6, .long (lN (low + u9))), (2, .long (lN low)), (4, .long (lN (low + (u9 + u9)))), (0, .int (nI p9)), (1, .int (nI 0))]) C dX8_rootOf_24 (by decide) rfl rfl ?_
      refine r_lload (q := 28) C 0 dX8_rootOf_26 rfl rfl ?_
      refine r_iload_n (q := 29) C 3 dX8_rootOf_28 rfl rfl ?_
      refine r_iload_n (q := 30) C 4 dX8_rootOf_29 rfl rfl ?_
      cases e9 : sqA p9 (low + u9) with
      | true =>
        refine r_callSw (q := 33) (As := [.long (lN (low + u9)), .int (nI p9), .int (nI 0)]) (st := []) C (m_iam_s hp (by omega)) q698 q696 q697 q9 ⟨by decide, by decide⟩ (show (parseMethodDescriptor yX8_isAtMost.desc).map (fun d => d.parameters.length) = some 3 by decide +kernel) (by decide) (by decide) (by decide) (by decide) (Nat.le_of_ble_eq_true rfl) rfl dX8_rootOf_30 rfl ?_
        rintro v9 w4 ⟨rfl, rfl⟩
        show V g k 8 w 0 0 (kQ g k (fun v w' => v = some (.int (nI (bs9 (sqA p9) 36 0))) ∧ w = w') 0 0) 33 [(6, .long (lN (low + u9))), (2, .long (lN low)), (4, .long (lN (low + (u9 + u9)))), (0, .int (nI p9)), (1, .int (nI 0))] [.int (nI (b9 (sqA p9 (low + u9))))]
        refine r_ti (show (nI (b9 (sqA p9 (low + u9))) : Int32) = nI 1 from by rw [e9]; rfl) ?_
        refine r_if_eq_f (q := 36) (tgt := 42) C dX8_rootOf_33 (by decide) rfl (by decide) ?_
        refine r_lload (q := 38) C 0 dX8_rootOf_36 rfl rfl ?_
        refine r_lstore_n (q := 39) (lv' := [(2, .long (lN (low + u9))), (6, .long (lN (low + u9))), (4, .long (lN (low + (u9 + u9)))), (0, .int (nI p9)), (1, .int (nI 0))]) C dX8_rootOf_38 (by decide) rfl rfl ?_
        refine r_goto (tgt := 46) C dX8_rootOf_39 (by decide) ?_
        refine r_goto (tgt := 7) C dX8_rootOf_46 (by decide) ?_
        refine r_sub (lv' := [(2, .long (lN (low + u9))), (4, .long (lN (low + (u9 + u9)))), (0, .int (nI p9)), (1, .int (nI 0))]) [0, 2, 3, 4] rfl ?_
        rw [← Nat.add_assoc, hu]
        exact ih (low + 2 ^ r) (by rw [← hu]; omega) (by rw [← ha, bs9, ← hu, e9])
      | false =>
        refine r_callSw (q := 33) (As := [.long (lN (low + u9)), .int (nI p9), .int (nI 0)]) (st := []) C (m_iam_s hp (by omega)) q698 q696 q697 q9 ⟨by decide, by decide⟩ (show (parseMethodDescriptor yX8_isAtMost.desc).map (fun d => d.parameters.length) = some 3 by decide +kernel) (by decide) (by decide) (by decide) (by decide) (Nat.le_of_ble_eq_true rfl) rfl dX8_rootOf_30 rfl ?_
        rintro v9 w5 ⟨rfl, rfl⟩
        show V g k 8 w 0 0 (kQ g k (fun v w' => v = some (.int (nI (bs9 (sqA p9) 36 0))) ∧ w = w') 0 0) 33 [(6, .long (lN (low + u9))), (2, .long (lN low)), (4, .long (lN (low + (u9 + u9)))), (0, .int (nI p9)), (1, .int (nI 0))] [.int (nI (b9 (sqA p9 (low + u9))))]
        refine r_ti (show (nI (b9 (sqA p9 (low + u9))) : Int32) = nI 0 from by rw [e9]; rfl) ?_
        refine r_if_eq_t (tgt := 42) C dX8_rootOf_33 (by decide) (by decide) ?_
        refine r_lload (q := 44) C 0 dX8_rootOf_42 rfl rfl ?_
        refine r_lstore (q := 46) (lv' := [(4, .long (lN (low + u9))), (6, .long (lN (low + u9))), (2, .long (lN low)), (0, .int (nI p9)), (1, .int (nI 0))]) C dX8_rootOf_44 (by decide) rfl rfl ?_
        refine r_goto (tgt := 7) C dX8_rootOf_46 (by decide) ?_
        refine r_sub (lv' := [(2, .long (lN low)), (4, .long (lN (low + u9))), (0, .int (nI p9)), (1, .int (nI 0))]) [2, 0, 3, 4] rfl ?_
        rw [hu]
        exact ih low (by rw [← hu]; omega) (by rw [← ha, bs9, ← hu, e9])
  exact loop 36 0 (by decide) rfl

set_option maxHeartbeats 4000000 in
set_option maxRecDepth 20000 in
theorem m_root_c {l : Launch} {g : cx_G} {w : wd_T} {p9 : Nat} (hp : p9 ≤ 400) : Mt l g yX8_rootOf cX8_rootOf 8 (some .int) 2 0 0 w [.int (nI p9), .int (nI 1)] (fun v w' => v = some (.int (nI (bs9 (cuA p9) 36 0))) ∧ w = w') := by
  refine mt_of RX8 "rootOf" rfl rfl (by decide) (Nat.le_of_ble_eq_true rfl) [(0, .int (nI p9)), (1, .int (nI 1))] rfl ?_
  intro k hkl C hin
  subst hkl
  refine r_lconst (q := 1) C (lN 0) dX8_rootOf_0 (by decide) rfl ?_
  refine r_lstore_n (q := 2) (lv' := [(2, .long (lN 0)), (0, .int (nI p9)), (1, .int (nI 1))]) C dX8_rootOf_1 (by decide) rfl rfl ?_
  refine r_ldc2 (q := 5) (v := lN 68719476736) C dX8_rootOf_2 q694 rfl ?_
  refine r_lstore (q := 7) (lv' := [(4, .long (lN 68719476736)), (2, .long (lN 0)), (0, .int (nI p9)), (1, .int (nI 1))]) C dX8_rootOf_5 (by decide) rfl rfl ?_
  refine r_sub (lv' := [(2, .long (lN 0)), (4, .long (lN 68719476736)), (0, .int (nI p9)), (1, .int (nI 1))]) [1, 0, 2, 3] rfl ?_
  have loop : ∀ (r low : Nat)  , (low + 2 ^ r ≤ 68719476736) → (bs9 (cuA p9) r low = bs9 (cuA p9) 36 0) → V g k 8 w 0 0 (kQ g k (fun v w' => v = some (.int (nI (bs9 (cuA p9) 36 0))) ∧ w = w') 0 0) 7 [(2, .long (lN low)), (4, .long (lN (low + 2 ^ r))), (0, .int (nI p9)), (1, .int (nI 1))] [] := by
    intro r
    induction r with
    | zero =>
      intro low   hi ha
      refine r_lload (q := 9) C 1 dX8_rootOf_7 rfl rfl ?_
      refine r_lload_n (q := 10) C 0 dX8_rootOf_9 rfl rfl ?_
      refine r_lsub (q := 11) C dX8_rootOf_10 rfl ?_
      refine r_tl (show ((lN (low + 2 ^ 0)) - (lN low) : Int64) = lN (low + 2 ^ 0 - low) from lN_sub (by omega)) ?_
      refine r_lconst (q := 12) C (lN 1) dX8_rootOf_11 (by decide) rfl ?_
      refine r_lcmp_le (q := 13) (q2 := 16) (tgt := 49) C dX8_rootOf_12 rfl dX8_rootOf_13 (by decide) rfl (fun _ => ?_) (fun hz1 => absurd ((pk_lLE (a := (low + 2 ^ 0 - low)) (b := 1) (by omega) (by omega)).mpr (by have : 2 ^ 0 = 1 := rfl; omega)) (by first | exact hz1 | exact fun zz => zz hz1))
      refine r_lload_n (q := 50) C 0 dX8_rootOf_49 rfl rfl ?_
      refine r_l2i (q := 51) C dX8_rootOf_50 rfl ?_
      refine r_ti (show ((lN low).toInt32 : Int32) = nI low from lN_i low) ?_
      exact r_iret C rfl (by decide) (by decide) dX8_rootOf_51 ⟨by rw [← ha]; rfl, rfl⟩
    | succ r ih =>
      intro low   hi ha
      have h2 : 2 ^ (r + 1) = 2 ^ r + 2 ^ r := by rw [Nat.pow_succ]; omega
      have h3 : 0 < 2 ^ r := Nat.pow_pos (by decide)
      obtain ⟨u9, hu⟩ : ∃ u9, u9 = 2 ^ r := ⟨_, rfl⟩
      rw [h2, ← hu] at hi
      rw [h2, ← hu]
      rw [← hu] at h3
      refine r_lload (q := 9) C 1 dX8_rootOf_7 rfl rfl ?_
      refine r_lload_n (q := 10) C 0 dX8_rootOf_9 rfl rfl ?_
      refine r_lsub (q := 11) C dX8_rootOf_10 rfl ?_
      refine r_tl (show ((lN (low + (u9 + u9))) - (lN low) : Int64) = lN (low + (u9 + u9) - low) from lN_sub (by omega)) ?_
      refine r_lconst (q := 12) C (lN 1) dX8_rootOf_11 (by decide) rfl ?_
      refine r_lcmp_le (q := 13) (q2 := 16) (tgt := 49) C dX8_rootOf_12 rfl dX8_rootOf_13 (by decide) rfl (fun hz3 => absurd (fun z => absurd ((pk_lLE (a := (low + (u9 + u9) - low)) (b := 1) (by omega) (by omega)).mp z) (by omega)) (by first | exact hz3 | exact fun zz => zz hz3)) (fun _ => ?_)
      refine r_lload_n (q := 17) C 0 dX8_rootOf_16 rfl rfl ?_
      refine r_lload (q := 19) C 1 dX8_rootOf_17 rfl rfl ?_
      refine r_ladd (q := 20) C dX8_rootOf_19 rfl ?_
      refine r_tl (show ((lN low) + (lN (low + (u9 + u9))) : Int64) = lN (low + (low + (u9 + u9))) from lN_add low (low + (u9 + u9))) ?_
      refine r_ldc2 (q := 23) (v := lN 2) C dX8_rootOf_20 q695 rfl ?_
      refine r_ldiv (q := 24) C dX8_rootOf_23 (by decide) rfl ?_
      refine r_tl (show ((lN (low + (low + (u9 + u9)))) / (lN 2) : Int64) = lN ((low + (low + (u9 + u9))) / 2) from pk_lDiv (by omega) (by omega) (by omega)) ?_
      refine r_tl (show (lN ((low + (low + (u9 + u9))) / 2) : Int64) = lN (low + u9) from by rw [show (low + (low + (u9 + u9))) / 2 = low + u9 by omega]) ?_
      refine r_lstore (q := 26) (lv' := [(6, .long (lN (low + u9))), (2, .long (lN low)), (4, .long (lN (low + (u9 + u9)))), (0, .int (nI p9)), (1, .int (nI 1))]) C dX8_rootOf_24 (by decide) rfl rfl ?_
      refine r_lload (q := 28) C 0 dX8_rootOf_26 rfl rfl ?_
      refine r_iload_n (q := 29) C 3 dX8_rootOf_28 rfl rfl ?_
      refine r_iload_n (q := 30) C 4 dX8_rootOf_29 rfl rfl ?_
      cases e9 : cuA p9 (low + u9) with
      | true =>
        refine r_callSw (q := 33) (As := [.long (lN (low + u9)), .int (nI p9), .int (nI 1)]) (st := []) C (m_iam_c hp (by omega)) q698 q696 q697 q9 ⟨by decide, by decide⟩ (show (parseMethodDescriptor yX8_isAtMost.desc).map (fun d => d.parameters.length) = some 3 by decide +kernel) (by decide) (by decide) (by decide) (by decide) (Nat.le_of_ble_eq_true rfl) rfl dX8_rootOf_30 rfl ?_
        rintro v9 w4 ⟨rfl, rfl⟩
        show V g k 8 w 0 0 (kQ g k (fun v w' => v = some (.int (nI (bs9 (cuA p9) 36 0))) ∧ w = w') 0 0) 33 [(6, .long (lN (low + u9))), (2, .long (lN low)), (4, .long (lN (low + (u9 + u9)))), (0, .int (nI p9)), (1, .int (nI 1))] [.int (nI (b9 (cuA p9 (low + u9))))]
        refine r_ti (show (nI (b9 (cuA p9 (low + u9))) : Int32) = nI 1 from by rw [e9]; rfl) ?_
        refine r_if_eq_f (q := 36) (tgt := 42) C dX8_rootOf_33 (by decide) rfl (by decide) ?_
        refine r_lload (q := 38) C 0 dX8_rootOf_36 rfl rfl ?_
        refine r_lstore_n (q := 39) (lv' := [(2, .long (lN (low + u9))), (6, .long (lN (low + u9))), (4, .long (lN (low + (u9 + u9)))), (0, .int (nI p9)), (1, .int (nI 1))]) C dX8_rootOf_38 (by decide) rfl rfl ?_
        refine r_goto (tgt := 46) C dX8_rootOf_39 (by decide) ?_
        refine r_goto (tgt := 7) C dX8_rootOf_46 (by decide) ?_
        refine r_sub (lv' := [(2, .long (lN (low + u9))), (4, .long (lN (low + (u9 + u9)))), (0, .int (nI p9)), (1, .int (nI 1))]) [0, 2, 3, 4] rfl ?_
        rw [← Nat.add_assoc, hu]
        exact ih (low + 2 ^ r) (by rw [← hu]; omega) (by rw [← ha, bs9, ← hu, e9])
      | false =>
        refine r_callSw (q := 33) (As := [.long (lN (low + u9)), .int (nI p9), .int (nI 1)]) (st := []) C (m_iam_c hp (by omega)) q698 q696 q697 q9 ⟨by decide, by decide⟩ (show (parseMethodDescriptor yX8_isAtMost.desc).map (fun d => d.parameters.length) = some 3 by decide +kernel) (by decide) (by decide) (by decide) (by decide) (Nat.le_of_ble_eq_true rfl) rfl dX8_rootOf_30 rfl ?_
        rintro v9 w5 ⟨rfl, rfl⟩
        show V g k 8 w 0 0 (kQ g k (fun v w' => v = some (.int (nI (bs9 (cuA p9) 36 0))) ∧ w = w') 0 0) 33 [(6, .long (lN (low + u9))), (2, .long (lN low)), (4, .long (lN (low + (u9 + u9)))), (0, .int (nI p9)), (1, .int (nI 1))] [.int (nI (b9 (cuA p9 (low + u9))))]
        refine r_ti (show (nI (b9 (cuA p9 (low + u9))) : Int32) = nI 0 from by rw [e9]; rfl) ?_
        refine r_if_eq_t (tgt := 42) C dX8_rootOf_33 (by decide) (by decide) ?_
        refine r_lload (q := 44) C 0 dX8_rootOf_42 rfl rfl ?_
        refine r_lstore (q := 46) (lv' := [(4, .long (lN (low + u9))), (6, .long (lN (low + u9))), (2, .long (lN low)), (0, .int (nI p9)), (1, .int (nI 1))]) C dX8_rootOf_44 (by decide) rfl rfl ?_
        refine r_goto (tgt := 7) C dX8_rootOf_46 (by decide) ?_
        refine r_sub (lv' := [(2, .long (lN low)), (4, .long (lN (low + u9))), (0, .int (nI p9)), (1, .int (nI 1))]) [2, 0, 3, 4] rfl ?_
        rw [hu]
        exact ih low (by rw [← hu]; omega) (by rw [← ha, bs9, ← hu, e9])
  exact loop 36 0 (by decide) rfl
