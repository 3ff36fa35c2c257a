/-! the reference: check, pair, root -/
theorem fit_b {x : Int32} (h : fits .byte (.int x) = true) : x.toInt8.toInt32 = x := by
  have h1 := (Bool.and_eq_true _ _).mp h
  have a : (-128 : Int32) ≤ x := of_decide_eq_true h1.1
  have b : x ≤ 127 := of_decide_eq_true h1.2
  have c : (-128 : Int32).toInt = -128 := by decide
  have d : (127 : Int32).toInt = 127 := by decide
  rw [Int32.le_iff_toInt_le] at a b
  apply Int32.toInt_inj.mp
  rw [Int8.toInt_toInt32, Int32.toInt_toInt8]
  exact Int.bmod_eq_of_le_mul_two (by omega) (by omega)
def ft9 (L : Nat → Int32) : Prop := ∀ p, (L p).toInt8.toInt32 = L p
theorem lfL_ft {by9 rD : Nat → Int32} {dy : Int32} (h : sb_Fit by9) : ∀ n, ft9 (lfL by9 rD dy n)
  | 0 => fun _ => by rw [lfL]; show (0 : Int32).toInt8.toInt32 = 0; decide
  | n + 1 => by
    intro p
    by_cases z : rD n = dy
    · rw [lfL_y z]
      by_cases y : 32 * lfN rD dy n ≤ p ∧ p < 32 * lfN rD dy n + 32
      · rw [if_pos y]; exact fit_b (h _)
      · rw [if_neg y]; exact lfL_ft h n p
    · rw [lfL_n z]; exact lfL_ft h n p
theorem nx9_ft {m : Nat} {L : Nat → Int32} (h : ft9 L) : ft9 (nx9 m L) := by
  intro p
  unfold nx9
  by_cases z : 2 * (p / 32) + 1 < m
  · rw [if_pos z]; exact dig9_8 _ _
  · rw [if_neg z]; exact h _
theorem clF_out {f rs : Nat → Int32} {a c p : Nat} (h : ¬ (a ≤ p ∧ p < a + c)) : clF f a c rs p = f p := if_neg h
theorem clF_in {f rs : Nat → Int32} {a c p : Nat} (h : a ≤ p ∧ p < a + c) : clF f a c rs p = rs (p - a) := if_pos h
theorem clF_0 {f rs : Nat → Int32} {a : Nat} : clF f a 0 rs = f := funext fun p => if_neg (by omega)
theorem lfL_cl {by9 lev rD : Nat → Int32} {dy : Int32} {n : Nat} (h : rD n = dy) (hl : ∀ p, p < 32 * lfN rD dy n → lev p = lfL by9 rD dy n p) : ∀ p, p < 32 * lfN rD dy (n + 1) → clF lev (32 * lfN rD dy n) 32 (fun j => by9 (73 * n + (41 + j))) p = lfL by9 rD dy (n + 1) p := by
  intro p hp
  rw [lfN_y h] at hp
  rw [lfL_y h]
  rcases Nat.lt_or_ge p (32 * lfN rD dy n) with q | q
  · rw [clF_out (by omega), if_neg (by omega), hl p q]
  · rw [clF_in (by omega), if_pos (by omega)]
theorem nx9_a {m q : Nat} {L lev : Nat → Int32} (h : 2 * q + 1 < m) (h1 : ∀ p, p < 32 * q → lev p = nx9 m L p) (h2 : ∀ p, 64 * q ≤ p → p < 32 * m → lev p = L p) : ∀ p, p < 32 * (q + 1) → clF lev (32 * q) 32 (dig9 (sum9 64 (fun j => lev (32 * (2 * q) + j)))) p = nx9 m L p := by
  intro p hp
  rcases Nat.lt_or_ge p (32 * q) with z | z
  · rw [clF_out (by omega), h1 p z]
  · rw [clF_in (by omega)]
    unfold nx9
    rw [show p / 32 = q by omega, if_pos h, show p % 32 = p - 32 * q by omega]
    rw [sum9_congr (h := fun j => L (64 * q + j)) (fun j hj => by show lev (32 * (2 * q) + j) = L (64 * q + j); rw [show 32 * (2 * q) + j = 64 * q + j by omega]; exact h2 _ (by omega) (by omega))]
theorem nx9_b {m q : Nat} {L lev : Nat → Int32} (h : ¬ 2 * q + 1 < m) (hq : 2 * q < m) (h1 : ∀ p, p < 32 * q → lev p = nx9 m L p) (h2 : ∀ p, 64 * q ≤ p → p < 32 * m → lev p = L p) : ∀ p, p < 32 * (q + 1) → clF lev (32 * q) 32 (fun j => lev (32 * (2 * q) + j)) p = nx9 m L p := by
  intro p hp
  rcases Nat.lt_or_ge p (32 * q) with z | z
  · rw [clF_out (by omega), h1 p z]
  · rw [clF_in (by omega)]
    unfold nx9
    rw [show p / 32 = q by omega, if_neg h, show p % 32 = p - 32 * q by omega, show 32 * (2 * q) + (p - 32 * q) = 64 * q + (p - 32 * q) by omega]
    exact h2 _ (by omega) (by omega)
set_option maxHeartbeats 4000000 in
set_option maxRecDepth 20000 in
theorem y_chk_n {l : Launch} {g : cx_G} {w : wd_T} {c m0 tk gN rN tN : Nat} {fl : Int32} {fn wn : Nat → Nat} {gp by9 rD tD tV tT : Nat → Int32} (hM : MdAt g w m0 fl tk gN rN tN fn wn gp by9 rD tD tV tT) (hI : Iv9 c tk gN rN tN fn wn by9 tD tV tT) {x : Int32} (hx : x < 0 ∨ nI rN < x) : Mt l g yX8_check cX8_check 4 (some .int) 4 0 0 w [.ref m0, .int x] (fun v w' => v = some (.int (-1)) ∧ MdAt g w' m0 (nI 0) tk gN rN tN fn wn gp by9 rD tD tV tT ∧ Fm w w') := by
  refine mt_of RX8 "check" rfl rfl (by decide) (Nat.le_of_ble_eq_true rfl) [(0, .ref m0), (1, .int x)] rfl ?_
  intro k hkl C hin
  subst hkl
  obtain ⟨ad, rS, fS, lv, fo, h0, hks, h3, h4, h5, h6, h7, h8, h9, h10, hsc, h16, h17⟩ := id hM
  obtain ⟨i0, i1, i2, i3, i4, i5, i6, i7, i8, i9, i10⟩ := id hI
  refine r_aload_n (q := 1) C 0 dX8_check_0 rfl rfl ?_
  refine r_iconst (q := 2) C (nI 0) dX8_check_1 (by decide) rfl ?_
  refine r_put (q := 5) (t := 0) (w' := wd_set w 0 m0 (mo ad (nI tN) (nI tk) (nI (tk + gN)) (nI gN) (nI rN) (nI 0) rS fS)) C koX8 h0 15 (by decide) q715 rfl rfl rfl rfl (Nat.le_of_ble_eq_true rfl) dX8_check_2 rfl rfl ?_
  refine r_iload_n (q := 6) C 1 dX8_check_5 rfl rfl ?_
  refine r_if_lt (q := 9) (tgt := 17) C dX8_check_6 (by decide) rfl (fun hc1 => ?_) (fun hc1 => ?_)
  · refine r_iconst (q := 18) C ((-1)) dX8_check_17 (by decide) rfl ?_
    exact r_iret C rfl (by decide) (by decide) dX8_check_18 ⟨rfl, ⟨ad, _, _, _, _, wd_eq, hks.kept (fun t _ _ => wd_ne (by omega)), ((wd_ne (by decide)).trans h3), ((wd_ne (by decide)).trans h4), ((wd_ne (by decide)).trans h5), ((wd_ne (by decide)).trans h6), ((wd_ne (by decide)).trans h7), ((wd_ne (by decide)).trans h8), ((wd_ne (by decide)).trans h9), ((wd_ne (by decide)).trans h10), hsc.kept (fun t _ _ => wd_ne (by omega)), ((wd_ne (by decide)).trans h16), ((wd_ne (by decide)).trans h17)⟩, fun t ht => wd_ne (by omega)⟩
  · refine r_iload_n (q := 10) C 1 dX8_check_9 rfl rfl ?_
    refine r_aload_n (q := 11) C 0 dX8_check_10 rfl rfl ?_
    refine r_get (q := 14) (t := 0) C koX8 wd_eq 14 (by decide) q714 rfl rfl dX8_check_11 rfl ?_
    refine r_icmp_le_f (q := 17) (tgt := 19) C dX8_check_14 (by decide) rfl (by rcases hx with z | z; exact absurd z hc1; exact Int32.not_le.mpr z) ?_
    refine r_iconst (q := 18) C ((-1)) dX8_check_17 (by decide) rfl ?_
    exact r_iret C rfl (by decide) (by decide) dX8_check_18 ⟨rfl, ⟨ad, _, _, _, _, wd_eq, hks.kept (fun t _ _ => wd_ne (by omega)), ((wd_ne (by decide)).trans h3), ((wd_ne (by decide)).trans h4), ((wd_ne (by decide)).trans h5), ((wd_ne (by decide)).trans h6), ((wd_ne (by decide)).trans h7), ((wd_ne (by decide)).trans h8), ((wd_ne (by decide)).trans h9), ((wd_ne (by decide)).trans h10), hsc.kept (fun t _ _ => wd_ne (by omega)), ((wd_ne (by decide)).trans h16), ((wd_ne (by decide)).trans h17)⟩, fun t ht => wd_ne (by omega)⟩

set_option maxHeartbeats 4000000 in
set_option maxRecDepth 20000 in
theorem y_chk_0 {l : Launch} {g : cx_G} {w : wd_T} {c m0 tk gN rN tN : Nat} {fl : Int32} {fn wn : Nat → Nat} {gp by9 rD tD tV tT : Nat → Int32} (hM : MdAt g w m0 fl tk gN rN tN fn wn gp by9 rD tD tV tT) (hI : Iv9 c tk gN rN tN fn wn by9 tD tV tT) {fr : Nat} (hfr : fr ≤ rN) (hall : ∀ r, fr ≤ r → r < rN → okR by9 r) : Mt l g yX8_check cX8_check 4 (some .int) 4 0 0 w [.ref m0, .int (nI fr)] (fun v w' => v = some (.int (nI 0)) ∧ MdAt g w' m0 (nI 0) tk gN rN tN fn wn gp by9 rD tD tV tT ∧ Fm w w') := by
  refine mt_of RX8 "check" rfl rfl (by decide) (Nat.le_of_ble_eq_true rfl) [(0, .ref m0), (1, .int (nI fr))] rfl ?_
  intro k hkl C hin
  subst hkl
  obtain ⟨ad, rS, fS, lv, fo, h0, hks, h3, h4, h5, h6, h7, h8, h9, h10, hsc, h16, h17⟩ := id hM
  obtain ⟨i0, i1, i2, i3, i4, i5, i6, i7, i8, i9, i10⟩ := id hI
  refine r_aload_n (q := 1) C 0 dX8_check_0 rfl rfl ?_
  refine r_iconst (q := 2) C (nI 0) dX8_check_1 (by decide) rfl ?_
  refine r_put (q := 5) (t := 0) (w' := wd_set w 0 m0 (mo ad (nI tN) (nI tk) (nI (tk + gN)) (nI gN) (nI rN) (nI 0) rS fS)) C koX8 h0 15 (by decide) q715 rfl rfl rfl rfl (Nat.le_of_ble_eq_true rfl) dX8_check_2 rfl rfl ?_
  refine r_iload_n (q := 6) C 1 dX8_check_5 rfl rfl ?_
  refine r_if_lt_f (q := 9) (tgt := 17) C dX8_check_6 (by decide) rfl (nI_pos (by omega)) ?_
  refine r_iload_n (q := 10) C 1 dX8_check_9 rfl rfl ?_
  refine r_aload_n (q := 11) C 0 dX8_check_10 rfl rfl ?_
  refine r_get (q := 14) (t := 0) C koX8 wd_eq 14 (by decide) q714 rfl rfl dX8_check_11 rfl ?_
  refine r_icmp_le_t (tgt := 19) C dX8_check_14 (by decide) ((nI_leI (a := fr) (b := rN) (by omega) (by omega)).mpr (by omega)) ?_
  refine r_iload_n (q := 20) C 1 dX8_check_19 rfl rfl ?_
  refine r_istore_n (q := 21) (lv' := [(2, .int (nI fr)), (0, .ref m0), (1, .int (nI fr))]) C dX8_check_20 (by decide) rfl rfl ?_
  refine r_sub (lv' := [(2, .int (nI fr)), (0, .ref m0), (1, .int (nI fr))]) [0, 1, 2] rfl ?_
  have loop : ∀ (u7 i9 : Nat) (r9 : Int32) (w1 : wd_T), i9 + u7 = rN → (w1 0 = some (m0, mo ad (nI tN) (nI tk) (nI (tk + gN)) (nI gN) (nI rN) (nI 0) r9 fS)) → (fr ≤ i9) → (ScAt g w1 ad) → (∀ t, t ≠ 0 → (t < 11 ∨ 16 ≤ t) → w1 t = w t) → V g k 4 w1 0 0 (kQ g k (fun v w' => v = some (.int (nI 0)) ∧ MdAt g w' m0 (nI 0) tk gN rN tN fn wn gp by9 rD tD tV tT ∧ Fm w w') 0 0) 21 [(2, .int (nI i9)), (0, .ref m0), (1, .int (nI fr))] [] := by
    intro u7
    induction u7 with
    | zero =>
      intro i9 r9 w1 hi g0 hi9 gsc gf
      obtain rfl : rN = i9 := by omega
      refine r_iload_n (q := 22) C 0 dX8_check_21 rfl rfl ?_
      refine r_aload_n (q := 23) C 1 dX8_check_22 rfl rfl ?_
      refine r_get (q := 26) (t := 0) C koX8 g0 14 (by decide) q714 rfl rfl dX8_check_23 rfl ?_
      refine r_icmp_ge_t (tgt := 81) C dX8_check_26 (by decide) ((nI_leI (a := rN) (b := rN) (by omega) (by omega)).mpr (by omega)) ?_
      refine r_iconst (q := 82) C (nI 0) dX8_check_81 (by decide) rfl ?_
      exact r_iret C rfl (by decide) (by decide) dX8_check_82 ⟨rfl, ⟨ad, _, _, _, _, g0, hks.kept (fun t _ _ => gf t (by omega) (by omega)), ((gf 3 (by decide) (by decide)).trans h3), ((gf 4 (by decide) (by decide)).trans h4), ((gf 5 (by decide) (by decide)).trans h5), ((gf 6 (by decide) (by decide)).trans h6), ((gf 7 (by decide) (by decide)).trans h7), ((gf 8 (by decide) (by decide)).trans h8), ((gf 9 (by decide) (by decide)).trans h9), ((gf 10 (by decide) (by decide)).trans h10), gsc, ((gf 16 (by decide) (by decide)).trans h16), ((gf 17 (by decide) (by decide)).trans h17)⟩, fun t ht => gf t (by omega) (by omega)⟩
    | succ u7 ih =>
      intro i9 r9 w1 hi g0 hi9 gsc gf
      refine r_iload_n (q := 22) C 0 dX8_check_21 rfl rfl ?_
      refine r_aload_n (q := 23) C 1 dX8_check_22 rfl rfl ?_
      refine r_get (q := 26) (t := 0) C koX8 g0 14 (by decide) q714 rfl rfl dX8_check_23 rfl ?_
      refine r_icmp_ge_f (q := 29) (tgt := 81) C dX8_check_26 (by decide) rfl (fun z => absurd ((nI_leI (a := rN) (b := i9) (by omega) (by omega)).mp z) (by omega)) ?_
      have hok := hall i9 (by omega) (by omega)
      refine r_aload_n (q := 30) C 1 dX8_check_29 rfl rfl ?_
      refine r_iload_n (q := 31) C 0 dX8_check_30 rfl rfl ?_
      refine r_callV (q := 34) (t := 0) (As := [.int (nI i9)]) (st := []) C koX8 g0 (m_dig (by9 := by9) (r := i9) (hks.kept (fun t _ _ => gf t (by omega) (by omega))) gsc g0 ((gf 9 (by decide) (by decide)).trans h9) (by omega)) q824 q821 q823 qp21 q9 rfl ⟨by decide, by decide⟩ (show (parseMethodDescriptor yX8_digestOf.desc).map (fun d => d.parameters.length) = some 1 by decide +kernel) (by decide) (by decide) (by decide) (by decide) (Nat.le_of_ble_eq_true rfl) rfl dX8_check_31 rfl ?_
      rintro v9 w5 ⟨rfl, ⟨rs5, e12, hrs⟩, hsc5, e0, ef⟩
      show V g k 4 w5 0 0 (kQ g k (fun v w' => v = some (.int (nI 0)) ∧ MdAt g w' m0 (nI 0) tk gN rN tN fn wn gp by9 rD tD tV tT ∧ Fm w w') 0 0) 34 [(2, .int (nI i9)), (0, .ref m0), (1, .int (nI fr))] []
      have gf5 : ∀ t, t ≠ 0 → (t < 11 ∨ 16 ≤ t) → w5 t = w t := fun t a b => (ef t a b).trans (gf t a b)
      refine r_iconst (q := 35) C (nI 0) dX8_check_34 (by decide) rfl ?_
      refine r_istore_n (q := 36) (lv' := [(3, .int (nI 0)), (2, .int (nI i9)), (0, .ref m0), (1, .int (nI fr))]) C dX8_check_35 (by decide) rfl rfl ?_
      refine r_sub (lv' := [(3, .int (nI 0)), (2, .int (nI i9)), (0, .ref m0), (1, .int (nI fr))]) [0, 1, 2, 3] rfl ?_
      have loop2 : ∀ (u8 c8 : Nat)  , c8 + u8 = 32 → V g k 4 w5 0 0 (kQ g k (fun v w' => v = some (.int (nI 0)) ∧ MdAt g w' m0 (nI 0) tk gN rN tN fn wn gp by9 rD tD tV tT ∧ Fm w w') 0 0) 36 [(3, .int (nI c8)), (2, .int (nI i9)), (0, .ref m0), (1, .int (nI fr))] [] := by
        intro u8
        induction u8 with
        | zero =>
          intro c8   hi 
          obtain rfl : 32 = c8 := by omega
          refine r_iload_n (q := 37) C 0 dX8_check_36 rfl rfl ?_
          refine r_bipush (q := 39) C (nI 32) dX8_check_37 (by decide) rfl ?_
          refine r_icmp_ge_t (tgt := 75) C dX8_check_39 (by decide) ((nI_leI (a := 32) (b := 32) (by omega) (by omega)).mpr (by omega)) ?_
          refine r_iinc (q := 78) (v := nI (i9 + 1)) (lv' := [(2, .int (nI (i9 + 1))), (3, .int (nI 32)), (0, .ref m0), (1, .int (nI fr))]) C 1 dX8_check_75 rfl (nI_1 i9) (by decide) rfl rfl ?_
          refine r_goto (tgt := 21) C dX8_check_78 (by decide) ?_
          refine r_sub (lv' := [(2, .int (nI (i9 + 1))), (0, .ref m0), (1, .int (nI fr))]) [0, 2, 3] rfl ?_
          exact ih (i9 + 1) _ w5 (by omega) e0 (by omega) hsc5 gf5
        | succ u8 ih2 =>
          intro c8   hi 
          refine r_iload_n (q := 37) C 0 dX8_check_36 rfl rfl ?_
          refine r_bipush (q := 39) C (nI 32) dX8_check_37 (by decide) rfl ?_
          refine r_icmp_ge_f (q := 42) (tgt := 75) C dX8_check_39 (by decide) rfl (fun z => absurd ((nI_leI (a := 32) (b := c8) (by omega) (by omega)).mp z) (by omega)) ?_
          refine r_aload_n (q := 43) C 2 dX8_check_42 rfl rfl ?_
          refine r_get (q := 46) (t := 0) C koX8 e0 12 (by decide) q712 rfl rfl dX8_check_43 rfl ?_
          refine r_bipush (q := 48) C (nI 73) dX8_check_46 (by decide) rfl ?_
          refine r_iload_n (q := 49) C 1 dX8_check_48 rfl rfl ?_
          refine r_imul (q := 50) C dX8_check_49 rfl ?_
          refine r_ti (show ((nI 73) * (nI i9) : Int32) = nI (73 * i9) from pk_mul 73 i9) ?_
          refine r_bipush (q := 52) C (nI 41) dX8_check_50 (by decide) rfl ?_
          refine r_iadd (q := 53) C dX8_check_52 rfl ?_
          refine r_ti (show ((nI (73 * i9)) + (nI 41) : Int32) = nI (73 * i9 + 41) from nI_add (73 * i9) 41) ?_
          refine r_iload_n (q := 54) C 0 dX8_check_53 rfl rfl ?_
          refine r_iadd (q := 55) C dX8_check_54 rfl ?_
          refine r_ti (show ((nI (73 * i9 + 41)) + (nI c8) : Int32) = nI (73 * i9 + 41 + c8) from nI_add (73 * i9 + 41) c8) ?_
          refine r_bald (q := 56) (t := 9) C ((ef 9 (by decide) (by decide)).trans ((gf 9 (by decide) (by decide)).trans h9)) (73 * i9 + 41 + c8) rfl (by omega) (by decide) dX8_check_55 rfl ?_
          refine r_aload_n (q := 57) C 2 dX8_check_56 rfl rfl ?_
          refine r_get (q := 60) (t := 0) C koX8 e0 18 (by decide) q718 rfl rfl dX8_check_57 rfl ?_
          refine r_iload_n (q := 61) C 0 dX8_check_60 rfl rfl ?_
          refine r_bald (q := 62) (t := 12) C e12 c8 rfl (by omega) (by decide) dX8_check_61 rfl ?_
          refine r_icmp_eq_t (tgt := 69) C dX8_check_62 (by decide) (by rw [hrs c8 (by omega), Nat.add_assoc]; exact hok c8 (by omega)) ?_
          refine r_iinc (q := 72) (v := nI (c8 + 1)) (lv' := [(3, .int (nI (c8 + 1))), (2, .int (nI i9)), (0, .ref m0), (1, .int (nI fr))]) C 0 dX8_check_69 rfl (nI_1 c8) (by decide) rfl rfl ?_
          refine r_goto (tgt := 36) C dX8_check_72 (by decide) ?_
          refine r_sub (lv' := [(3, .int (nI (c8 + 1))), (2, .int (nI i9)), (0, .ref m0), (1, .int (nI fr))]) [0, 1, 2, 3] rfl ?_
          exact ih2 (c8 + 1) (by omega)
      exact loop2 32 0 (by omega)
  exact loop (rN - fr) fr _ _ (by omega) wd_eq (by omega) (hsc.kept (fun t _ _ => wd_ne (by omega))) (fun t a _ => wd_ne a)

set_option maxHeartbeats 4000000 in
set_option maxRecDepth 20000 in
theorem y_chk_r {l : Launch} {g : cx_G} {w : wd_T} {c m0 tk gN rN tN : Nat} {fl : Int32} {fn wn : Nat → Nat} {gp by9 rD tD tV tT : Nat → Int32} (hM : MdAt g w m0 fl tk gN rN tN fn wn gp by9 rD tD tV tT) (hI : Iv9 c tk gN rN tN fn wn by9 tD tV tT) {fr : Nat} (hfr : fr ≤ rN) {r : Nat} (h1r : fr ≤ r) (h2r : r < rN) (h3r : ¬ okR by9 r) (h4r : ∀ q, fr ≤ q → q < r → okR by9 q) : Mt l g yX8_check cX8_check 4 (some .int) 4 0 0 w [.ref m0, .int (nI fr)] (fun v w' => v = some (.int (nI (1 + r))) ∧ MdAt g w' m0 (nI 0) tk gN rN tN fn wn gp by9 rD tD tV tT ∧ Fm w w') := by
  refine mt_of RX8 "check" rfl rfl (by decide) (Nat.le_of_ble_eq_true rfl) [(0, .ref m0), (1, .int (nI fr))] rfl ?_
  intro k hkl C hin
  subst hkl
  obtain ⟨ad, rS, fS, lv, fo, h0, hks, h3, h4, h5, h6, h7, h8, h9, h10, hsc, h16, h17⟩ := id hM
  obtain ⟨i0, i1, i2, i3, i4, i5, i6, i7, i8, i9, i10⟩ := id hI
  refine r_aload_n (q := 1) C 0 dX8_check_0 rfl rfl ?_
  refine r_iconst (q := 2) C (nI 0) dX8_check_1 (by decide) rfl ?_
  refine r_put (q := 5) (t := 0) (w' := wd_set w 0 m0 (mo ad (nI tN) (nI tk) (nI (tk + gN)) (nI gN) (nI rN) (nI 0) rS fS)) C koX8 h0 15 (by decide) q715 rfl rfl rfl rfl (Nat.le_of_ble_eq_true rfl) dX8_check_2 rfl rfl ?_
  refine r_iload_n (q := 6) C 1 dX8_check_5 rfl rfl ?_
  refine r_if_lt_f (q := 9) (tgt := 17) C dX8_check_6 (by decide) rfl (nI_pos (by omega)) ?_
  refine r_iload_n (q := 10) C 1 dX8_check_9 rfl rfl ?_
  refine r_aload_n (q := 11) C 0 dX8_check_10 rfl rfl ?_
  refine r_get (q := 14) (t := 0) C koX8 wd_eq 14 (by decide) q714 rfl rfl dX8_check_11 rfl ?_
  refine r_icmp_le_t (tgt := 19) C dX8_check_14 (by decide) ((nI_leI (a := fr) (b := rN) (by omega) (by omega)).mpr (by omega)) ?_
  refine r_iload_n (q := 20) C 1 dX8_check_19 rfl rfl ?_
  refine r_istore_n (q := 21) (lv' := [(2, .int (nI fr)), (0, .ref m0), (1, .int (nI fr))]) C dX8_check_20 (by decide) rfl rfl ?_
  refine r_sub (lv' := [(2, .int (nI fr)), (0, .ref m0), (1, .int (nI fr))]) [0, 1, 2] rfl ?_
  have loop : ∀ (u7 i9 : Nat) (r9 : Int32) (w1 : wd_T), i9 + u7 = r → (w1 0 = some (m0, mo ad (nI tN) (nI tk) (nI (tk + gN)) (nI gN) (nI rN) (nI 0) r9 fS)) → (fr ≤ i9) → (ScAt g w1 ad) → (∀ t, t ≠ 0 → (t < 11 ∨ 16 ≤ t) → w1 t = w t) → V g k 4 w1 0 0 (kQ g k (fun v w' => v = some (.int (nI (1 + r))) ∧ MdAt g w' m0 (nI 0) tk gN rN tN fn wn gp by9 rD tD tV tT ∧ Fm w w') 0 0) 21 [(2, .int (nI i9)), (0, .ref m0), (1, .int (nI fr))] [] := by
    intro u7
    induction u7 with
    | zero =>
      intro i9 r9 w1 hi g0 hi9 gsc gf
      obtain rfl : r = i9 := by omega
      refine r_iload_n (q := 22) C 0 dX8_check_21 rfl rfl ?_
      refine r_aload_n (q := 23) C 1 dX8_check_22 rfl rfl ?_
      refine r_get (q := 26) (t := 0) C koX8 g0 14 (by decide) q714 rfl rfl dX8_check_23 rfl ?_
      refine r_icmp_ge_f (q := 29) (tgt := 81) C dX8_check_26 (by decide) rfl (fun z => absurd ((nI_leI (a := rN) (b := r) (by omega) (by omega)).mp z) (by omega)) ?_
      refine r_aload_n (q := 30) C 1 dX8_check_29 rfl rfl ?_
      refine r_iload_n (q := 31) C 0 dX8_check_30 rfl rfl ?_
      refine r_callV (q := 34) (t := 0) (As := [.int (nI r)]) (st := []) C koX8 g0 (m_dig (by9 := by9) (r := r) (hks.kept (fun t _ _ => gf t (by omega) (by omega))) gsc g0 ((gf 9 (by decide) (by decide)).trans h9) (by omega)) q824 q821 q823 qp21 q9 rfl ⟨by decide, by decide⟩ (show (parseMethodDescriptor yX8_digestOf.desc).map (fun d => d.parameters.length) = some 1 by decide +kernel) (by decide) (by decide) (by decide) (by decide) (Nat.le_of_ble_eq_true rfl) rfl dX8_check_31 rfl ?_
      rintro v9 w5 ⟨rfl, ⟨rs5, e12, hrs⟩, hsc5, e0, ef⟩
      show V g k 4 w5 0 0 (kQ g k (fun v w' => v = some (.int (nI (1 + r))) ∧ MdAt g w' m0 (nI 0) tk gN rN tN fn wn gp by9 rD tD tV tT ∧ Fm w w') 0 0) 34 [(2, .int (nI r)), (0, .ref m0), (1, .int (nI fr))] []
      have gf5 : ∀ t, t ≠ 0 → (t < 11 ∨ 16 ≤ t) → w5 t = w t := fun t a b => (ef t a b).trans (gf t a b)
      refine r_iconst (q := 35) C (nI 0) dX8_check_34 (by decide) rfl ?_
      refine r_istore_n (q := 36) (lv' := [(3, .int (nI 0)), (2, .int (nI r)), (0, .ref m0), (1, .int (nI fr))]) C dX8_check_35 (by decide) rfl rfl ?_
      refine r_sub (lv' := [(3, .int (nI 0)), (2, .int (nI r)), (0, .ref m0), (1, .int (nI fr))]) [0, 1, 2, 3] rfl ?_
      have loop2 : ∀ (u8 c8 : Nat)  , c8 + u8 = 32 → (∀ k8, k8 < c8 → by9 (73 * r + (41 + k8)) = rs5 k8) → V g k 4 w5 0 0 (kQ g k (fun v w' => v = some (.int (nI (1 + r))) ∧ MdAt g w' m0 (nI 0) tk gN rN tN fn wn gp by9 rD tD tV tT ∧ Fm w w') 0 0) 36 [(3, .int (nI c8)), (2, .int (nI r)), (0, .ref m0), (1, .int (nI fr))] [] := by
        intro u8
        induction u8 with
        | zero =>
          intro c8   hi heq
          obtain rfl : 32 = c8 := by omega
          exact absurd (fun k8 h8 => by rw [← hrs k8 h8]; exact heq k8 h8) h3r
        | succ u8 ih2 =>
          intro c8   hi heq
          refine r_iload_n (q := 37) C 0 dX8_check_36 rfl rfl ?_
          refine r_bipush (q := 39) C (nI 32) dX8_check_37 (by decide) rfl ?_
          refine r_icmp_ge_f (q := 42) (tgt := 75) C dX8_check_39 (by decide) rfl (fun z => absurd ((nI_leI (a := 32) (b := c8) (by omega) (by omega)).mp z) (by omega)) ?_
          refine r_aload_n (q := 43) C 2 dX8_check_42 rfl rfl ?_
          refine r_get (q := 46) (t := 0) C koX8 e0 12 (by decide) q712 rfl rfl dX8_check_43 rfl ?_
          refine r_bipush (q := 48) C (nI 73) dX8_check_46 (by decide) rfl ?_
          refine r_iload_n (q := 49) C 1 dX8_check_48 rfl rfl ?_
          refine r_imul (q := 50) C dX8_check_49 rfl ?_
          refine r_ti (show ((nI 73) * (nI r) : Int32) = nI (73 * r) from pk_mul 73 r) ?_
          refine r_bipush (q := 52) C (nI 41) dX8_check_50 (by decide) rfl ?_
          refine r_iadd (q := 53) C dX8_check_52 rfl ?_
          refine r_ti (show ((nI (73 * r)) + (nI 41) : Int32) = nI (73 * r + 41) from nI_add (73 * r) 41) ?_
          refine r_iload_n (q := 54) C 0 dX8_check_53 rfl rfl ?_
          refine r_iadd (q := 55) C dX8_check_54 rfl ?_
          refine r_ti (show ((nI (73 * r + 41)) + (nI c8) : Int32) = nI (73 * r + 41 + c8) from nI_add (73 * r + 41) c8) ?_
          refine r_bald (q := 56) (t := 9) C ((ef 9 (by decide) (by decide)).trans ((gf 9 (by decide) (by decide)).trans h9)) (73 * r + 41 + c8) rfl (by omega) (by decide) dX8_check_55 rfl ?_
          refine r_aload_n (q := 57) C 2 dX8_check_56 rfl rfl ?_
          refine r_get (q := 60) (t := 0) C koX8 e0 18 (by decide) q718 rfl rfl dX8_check_57 rfl ?_
          refine r_iload_n (q := 61) C 0 dX8_check_60 rfl rfl ?_
          refine r_bald (q := 62) (t := 12) C e12 c8 rfl (by omega) (by decide) dX8_check_61 rfl ?_
          refine r_icmp_eq (q := 65) (tgt := 69) C dX8_check_62 (by decide) rfl (fun hc3 => ?_) (fun hc3 => ?_)
          · refine r_iinc (q := 72) (v := nI (c8 + 1)) (lv' := [(3, .int (nI (c8 + 1))), (2, .int (nI r)), (0, .ref m0), (1, .int (nI fr))]) C 0 dX8_check_69 rfl (nI_1 c8) (by decide) rfl rfl ?_
            refine r_goto (tgt := 36) C dX8_check_72 (by decide) ?_
            refine r_sub (lv' := [(3, .int (nI (c8 + 1))), (2, .int (nI r)), (0, .ref m0), (1, .int (nI fr))]) [0, 1, 2, 3] rfl ?_
            exact ih2 (c8 + 1) (by omega) (fun k8 h8 => by by_cases z : k8 = c8; rw [z, ← Nat.add_assoc]; exact hc3; exact heq k8 (by omega))
          · refine r_iconst (q := 66) C (nI 1) dX8_check_65 (by decide) rfl ?_
            refine r_iload_n (q := 67) C 1 dX8_check_66 rfl rfl ?_
            refine r_iadd (q := 68) C dX8_check_67 rfl ?_
            refine r_ti (show ((nI 1) + (nI r) : Int32) = nI (1 + r) from nI_add 1 r) ?_
            exact r_iret C rfl (by decide) (by decide) dX8_check_68 ⟨rfl, ⟨ad, _, _, _, _, e0, hks.kept (fun t _ _ => gf5 t (by omega) (by omega)), ((ef 3 (by decide) (by decide)).trans ((gf 3 (by decide) (by decide)).trans h3)), ((ef 4 (by decide) (by decide)).trans ((gf 4 (by decide) (by decide)).trans h4)), ((ef 5 (by decide) (by decide)).trans ((gf 5 (by decide) (by decide)).trans h5)), ((ef 6 (by decide) (by decide)).trans ((gf 6 (by decide) (by decide)).trans h6)), ((ef 7 (by decide) (by decide)).trans ((gf 7 (by decide) (by decide)).trans h7)), ((ef 8 (by decide) (by decide)).trans ((gf 8 (by decide) (by decide)).trans h8)), ((ef 9 (by decide) (by decide)).trans ((gf 9 (by decide) (by decide)).trans h9)), ((ef 10 (by decide) (by decide)).trans ((gf 10 (by decide) (by decide)).trans h10)), hsc5, ((ef 16 (by decide) (by decide)).trans ((gf 16 (by decide) (by decide)).trans h16)), ((ef 17 (by decide) (by decide)).trans ((gf 17 (by decide) (by decide)).trans h17))⟩, fun t ht => gf5 t (by omega) (by omega)⟩
      exact loop2 32 0 (by omega) (fun k8 h8 => absurd h8 (Nat.not_lt_zero k8))
    | succ u7 ih =>
      intro i9 r9 w1 hi g0 hi9 gsc gf
      refine r_iload_n (q := 22) C 0 dX8_check_21 rfl rfl ?_
      refine r_aload_n (q := 23) C 1 dX8_check_22 rfl rfl ?_
      refine r_get (q := 26) (t := 0) C koX8 g0 14 (by decide) q714 rfl rfl dX8_check_23 rfl ?_
      refine r_icmp_ge_f (q := 29) (tgt := 81) C dX8_check_26 (by decide) rfl (fun z => absurd ((nI_leI (a := rN) (b := i9) (by omega) (by omega)).mp z) (by omega)) ?_
      have hok := h4r i9 (by omega) (by omega)
      refine r_aload_n (q := 30) C 1 dX8_check_29 rfl rfl ?_
      refine r_iload_n (q := 31) C 0 dX8_check_30 rfl rfl ?_
      refine r_callV (q := 34) (t := 0) (As := [.int (nI i9)]) (st := []) C koX8 g0 (m_dig (by9 := by9) (r := i9) (hks.kept (fun t _ _ => gf t (by omega) (by omega))) gsc g0 ((gf 9 (by decide) (by decide)).trans h9) (by omega)) q824 q821 q823 qp21 q9 rfl ⟨by decide, by decide⟩ (show (parseMethodDescriptor yX8_digestOf.desc).map (fun d => d.parameters.length) = some 1 by decide +kernel) (by decide) (by decide) (by decide) (by decide) (Nat.le_of_ble_eq_true rfl) rfl dX8_check_31 rfl ?_
      rintro v9 w5 ⟨rfl, ⟨rs5, e12, hrs⟩, hsc5, e0, ef⟩
      show V g k 4 w5 0 0 (kQ g k (fun v w' => v = some (.int (nI (1 + r))) ∧ MdAt g w' m0 (nI 0) tk gN rN tN fn wn gp by9 rD tD tV tT ∧ Fm w w') 0 0) 34 [(2, .int (nI i9)), (0, .ref m0), (1, .int (nI fr))] []
      have gf5 : ∀ t, t ≠ 0 → (t < 11 ∨ 16 ≤ t) → w5 t = w t := fun t a b => (ef t a b).trans (gf t a b)
      refine r_iconst (q := 35) C (nI 0) dX8_check_34 (by decide) rfl ?_
      refine r_istore_n (q := 36) (lv' := [(3, .int (nI 0)), (2, .int (nI i9)), (0, .ref m0), (1, .int (nI fr))]) C dX8_check_35 (by decide) rfl rfl ?_
      refine r_sub (lv' := [(3, .int (nI 0)), (2, .int (nI i9)), (0, .ref m0), (1, .int (nI fr))]) [0, 1, 2, 3] rfl ?_
      have loop2 : ∀ (u8 c8 : Nat)  , c8 + u8 = 32 → V g k 4 w5 0 0 (kQ g k (fun v w' => v = some (.int (nI (1 + r))) ∧ MdAt g w' m0 (nI 0) tk gN rN tN fn wn gp by9 rD tD tV tT ∧ Fm w w') 0 0) 36 [(3, .int (nI c8)), (2, .int (nI i9)), (0, .ref m0), (1, .int (nI fr))] [] := by
        intro u8
        induction u8 with
        | zero =>
          intro c8   hi 
          obtain rfl : 32 = c8 := by omega
          refine r_iload_n (q := 37) C 0 dX8_check_36 rfl rfl ?_
          refine r_bipush (q := 39) C (nI 32) dX8_check_37 (by decide) rfl ?_
          refine r_icmp_ge_t (tgt := 75) C dX8_check_39 (by decide) ((nI_leI (a := 32) (b := 32) (by omega) (by omega)).mpr (by omega)) ?_
          refine r_iinc (q := 78) (v := nI (i9 + 1)) (lv' := [(2, .int (nI (i9 + 1))), (3, .int (nI 32)), (0, .ref m0), (1, .int (nI fr))]) C 1 dX8_check_75 rfl (nI_1 i9) (by decide) rfl rfl ?_
          refine r_goto (tgt := 21) C dX8_check_78 (by decide) ?_
          refine r_sub (lv' := [(2, .int (nI (i9 + 1))), (0, .ref m0), (1, .int (nI fr))]) [0, 2, 3] rfl ?_
          exact ih (i9 + 1) _ w5 (by omega) e0 (by omega) hsc5 gf5
        | succ u8 ih2 =>
          intro c8   hi 
          refine r_iload_n (q := 37) C 0 dX8_check_36 rfl rfl ?_
          refine r_bipush (q := 39) C (nI 32) dX8_check_37 (by decide) rfl ?_
          refine r_icmp_ge_f (q := 42) (tgt := 75) C dX8_check_39 (by decide) rfl (fun z => absurd ((nI_leI (a := 32) (b := c8) (by omega) (by omega)).mp z) (by omega)) ?_
          refine r_aload_n (q := 43) C 2 dX8_check_42 rfl rfl ?_
          refine r_get (q := 46) (t := 0) C koX8 e0 12 (by decide) q712 rfl rfl dX8_check_43 rfl ?_
          refine r_bipush (q := 48) C (nI 73) dX8_check_46 (by decide) rfl ?_
          refine r_iload_n (q := 49) C 1 dX8_check_48 rfl rfl ?_
          refine r_imul (q := 50) C dX8_check_49 rfl ?_
          refine r_ti (show ((nI 73) * (nI i9) : Int32) = nI (73 * i9) from pk_mul 73 i9) ?_
          refine r_bipush (q := 52) C (nI 41) dX8_check_50 (by decide) rfl ?_
          refine r_iadd (q := 53) C dX8_check_52 rfl ?_
          refine r_ti (show ((nI (73 * i9)) + (nI 41) : Int32) = nI (73 * i9 + 41) from nI_add (73 * i9) 41) ?_
          refine r_iload_n (q := 54) C 0 dX8_check_53 rfl rfl ?_
          refine r_iadd (q := 55) C dX8_check_54 rfl ?_
          refine r_ti (show ((nI (73 * i9 + 41)) + (nI c8) : Int32) = nI (73 * i9 + 41 + c8) from nI_add (73 * i9 + 41) c8) ?_
          refine r_bald (q := 56) (t := 9) C ((ef 9 (by decide) (by decide)).trans ((gf 9 (by decide) (by decide)).trans h9)) (73 * i9 + 41 + c8) rfl (by omega) (by decide) dX8_check_55 rfl ?_
          refine r_aload_n (q := 57) C 2 dX8_check_56 rfl rfl ?_
          refine r_get (q := 60) (t := 0) C koX8 e0 18 (by decide) q718 rfl rfl dX8_check_57 rfl ?_
          refine r_iload_n (q := 61) C 0 dX8_check_60 rfl rfl ?_
          refine r_bald (q := 62) (t := 12) C e12 c8 rfl (by omega) (by decide) dX8_check_61 rfl ?_
          refine r_icmp_eq_t (tgt := 69) C dX8_check_62 (by decide) (by rw [hrs c8 (by omega), Nat.add_assoc]; exact hok c8 (by omega)) ?_
          refine r_iinc (q := 72) (v := nI (c8 + 1)) (lv' := [(3, .int (nI (c8 + 1))), (2, .int (nI i9)), (0, .ref m0), (1, .int (nI fr))]) C 0 dX8_check_69 rfl (nI_1 c8) (by decide) rfl rfl ?_
          refine r_goto (tgt := 36) C dX8_check_72 (by decide) ?_
          refine r_sub (lv' := [(3, .int (nI (c8 + 1))), (2, .int (nI i9)), (0, .ref m0), (1, .int (nI fr))]) [0, 1, 2, 3] rfl ?_
          exact ih2 (c8 + 1) (by omega)
      exact loop2 32 0 (by omega)
  exact loop (r - fr) fr _ _ (by omega) wd_eq (by omega) (hsc.kept (fun t _ _ => wd_ne (by omega))) (fun t a _ => wd_ne a)

set_option maxHeartbeats 4000000 in
set_option maxRecDepth 20000 in
theorem m_pair_n {l : Launch} {g : cx_G} {w : wd_T} {m0 : Nat} {ad : Nat → Nat} {tC tk nu gC rC fl rS fS : Int32} {lv : Nat → Int32} {p9 b9 : Nat} (h0 : w 0 = some (m0, mo ad tC tk nu gC rC fl rS fS)) (h16 : w 16 = some (ad 16, aB g 6400 lv)) (hpq : b9 < p9) (hp : p9 < 200) (hf : ∀ j, j < 32 → (lv (32 * p9 + j)).toInt8.toInt32 = lv (32 * p9 + j)) : Mt l g yX8_pair cX8_pair 5 none 3 0 0 w [.ref m0, .int (nI p9), .int (nI b9), .int (nI 0)] (fun v w' => v = none ∧ w' 16 = some (ad 16, aB g 6400 (clF lv (32 * b9) 32 (fun j => lv (32 * p9 + j)))) ∧ Fr w w' 16 17) := by
  refine mt_of RX8 "pair" rfl rfl (by decide) (Nat.le_of_ble_eq_true rfl) [(0, .ref m0), (1, .int (nI p9)), (2, .int (nI b9)), (3, .int (nI 0))] rfl ?_
  intro k hkl C hin
  subst hkl
  refine r_iload_n (q := 1) C 3 dX8_pair_0 rfl rfl ?_
  refine r_if_ne_f (q := 4) (tgt := 45) C dX8_pair_1 (by decide) rfl (by decide) ?_
  refine r_iconst (q := 5) C (nI 0) dX8_pair_4 (by decide) rfl ?_
  refine r_istore (q := 7) (lv' := [(4, .int (nI 0)), (0, .ref m0), (1, .int (nI p9)), (2, .int (nI b9)), (3, .int (nI 0))]) C dX8_pair_5 (by decide) rfl rfl ?_
  refine r_sub (lv' := [(4, .int (nI 0)), (0, .ref m0), (1, .int (nI p9)), (2, .int (nI b9))]) [0, 1, 2, 3] rfl ?_
  have loop : ∀ (r c : Nat)  (w1 : wd_T), c + r = 32 → (w1 16 = some (ad 16, aB g 6400 (clF lv (32 * b9) c (fun j => lv (32 * p9 + j))))) → (Fr w w1 16 17) → V g k 5 w1 0 0 (kQ g k (fun v w' => v = none ∧ w' 16 = some (ad 16, aB g 6400 (clF lv (32 * b9) 32 (fun j => lv (32 * p9 + j)))) ∧ Fr w w' 16 17) 0 0) 7 [(4, .int (nI c)), (0, .ref m0), (1, .int (nI p9)), (2, .int (nI b9))] [] := by
    intro r
    induction r with
    | zero =>
      intro c  w1 hi g16 gf
      refine r_iload (q := 9) C 0 dX8_pair_7 rfl rfl ?_
      refine r_bipush (q := 11) C (nI 32) dX8_pair_9 (by decide) rfl ?_
      refine r_icmp_ge_t (tgt := 44) C dX8_pair_11 (by decide) ((nI_leI (a := 32) (b := c) (by omega) (by omega)).mpr (by omega)) ?_
      obtain rfl : c = 32 := by omega
      exact r_vret C rfl (by decide) (by decide) dX8_pair_44 ⟨rfl, g16, gf⟩
    | succ r ih =>
      intro c  w1 hi g16 gf
      refine r_iload (q := 9) C 0 dX8_pair_7 rfl rfl ?_
      refine r_bipush (q := 11) C (nI 32) dX8_pair_9 (by decide) rfl ?_
      refine r_icmp_ge_f (q := 14) (tgt := 44) C dX8_pair_11 (by decide) rfl (fun z => absurd ((nI_leI (a := 32) (b := c) (by omega) (by omega)).mp z) (by omega)) ?_
      refine r_aload_n (q := 15) C 1 dX8_pair_14 rfl rfl ?_
      refine r_get (q := 18) (t := 0) C koX8 ((gf 0 (by decide)).trans h0) 22 (by decide) q722 rfl rfl dX8_pair_15 rfl ?_
      refine r_bipush (q := 20) C (nI 32) dX8_pair_18 (by decide) rfl ?_
      refine r_iload_n (q := 21) C 3 dX8_pair_20 rfl rfl ?_
      refine r_imul (q := 22) C dX8_pair_21 rfl ?_
      refine r_ti (show ((nI 32) * (nI b9) : Int32) = nI (32 * b9) from pk_mul 32 b9) ?_
      refine r_iload (q := 24) C 0 dX8_pair_22 rfl rfl ?_
      refine r_iadd (q := 25) C dX8_pair_24 rfl ?_
      refine r_ti (show ((nI (32 * b9)) + (nI c) : Int32) = nI (32 * b9 + c) from nI_add (32 * b9) c) ?_
      refine r_aload_n (q := 26) C 1 dX8_pair_25 rfl rfl ?_
      refine r_get (q := 29) (t := 0) C koX8 ((gf 0 (by decide)).trans h0) 22 (by decide) q722 rfl rfl dX8_pair_26 rfl ?_
      refine r_bipush (q := 31) C (nI 32) dX8_pair_29 (by decide) rfl ?_
      refine r_iload_n (q := 32) C 2 dX8_pair_31 rfl rfl ?_
      refine r_imul (q := 33) C dX8_pair_32 rfl ?_
      refine r_ti (show ((nI 32) * (nI p9) : Int32) = nI (32 * p9) from pk_mul 32 p9) ?_
      refine r_iload (q := 35) C 0 dX8_pair_33 rfl rfl ?_
      refine r_iadd (q := 36) C dX8_pair_35 rfl ?_
      refine r_ti (show ((nI (32 * p9)) + (nI c) : Int32) = nI (32 * p9 + c) from nI_add (32 * p9) c) ?_
      refine r_bald (q := 37) (t := 16) C g16 (32 * p9 + c) rfl (by omega) (by decide) dX8_pair_36 rfl ?_
      refine r_ti (show ((clF lv (32 * b9) c (fun j => lv (32 * p9 + j))) (32 * p9 + c) : Int32) = lv (32 * p9 + c) from clF_out (by omega)) ?_
      refine r_bast (q := 38) (t := 16) (w' := wd_set w1 16 (ad 16) (aB g 6400 (upd (clF lv (32 * b9) c (fun j => lv (32 * p9 + j))) (32 * b9 + c) (lv (32 * p9 + c)).toInt8.toInt32))) C g16 (32 * b9 + c) rfl (by omega) (by decide) dX8_pair_37 rfl rfl ?_
      refine r_iinc (q := 41) (v := nI (c + 1)) (lv' := [(4, .int (nI (c + 1))), (0, .ref m0), (1, .int (nI p9)), (2, .int (nI b9))]) C 0 dX8_pair_38 rfl (nI_1 c) (by decide) rfl rfl ?_
      refine r_goto (tgt := 7) C dX8_pair_41 (by decide) ?_
      refine r_sub (lv' := [(4, .int (nI (c + 1))), (0, .ref m0), (1, .int (nI p9)), (2, .int (nI b9))]) [0, 1, 2, 3] rfl ?_
      refine ih (c + 1) _ (by omega) ?_ (gf.trans (Fr.set (by decide) (by decide)))
      rw [← clF_s (rs := fun j => lv (32 * p9 + j)) (x := (lv (32 * p9 + c)).toInt8.toInt32) (hf c (by omega))]
      exact wd_eq
  exact loop 32 0 w (by omega) (by rw [clF_0]; exact h16) Fr.rfl'

set_option maxHeartbeats 4000000 in
set_option maxRecDepth 20000 in
theorem m_pair_y {l : Launch} {g : cx_G} {w : wd_T} {m0 : Nat} {ad : Nat → Nat} {tC tk nu gC rC fl rS fS : Int32} {lv : Nat → Int32} {p9 b9 : Nat} (hks : KsAt g w ad) (hsc : ScAt g w ad) (h0 : w 0 = some (m0, mo ad tC tk nu gC rC fl rS fS)) (h16 : w 16 = some (ad 16, aB g 6400 lv)) (hp : p9 + 1 < 200) (hq : b9 < 200) : Mt l g yX8_pair cX8_pair 5 none 3 0 0 w [.ref m0, .int (nI p9), .int (nI b9), .int (nI 1)] (fun v w' => v = none ∧ w' 16 = some (ad 16, aB g 6400 (clF lv (32 * b9) 32 (dig9 (sum9 64 (fun j => lv (32 * p9 + j)))))) ∧ ScAt g w' ad ∧ w' 0 = some (m0, mo ad tC tk nu gC rC fl (nI 128) fS) ∧ ∀ t, t ≠ 0 → (t < 11 ∨ 17 ≤ t) → w' t = w t) := by
  refine mt_of RX8 "pair" rfl rfl (by decide) (Nat.le_of_ble_eq_true rfl) [(0, .ref m0), (1, .int (nI p9)), (2, .int (nI b9)), (3, .int (nI 1))] rfl ?_
  intro k hkl C hin
  subst hkl
  obtain ⟨⟨cu, c1, hcu⟩, sq, c2, hsq⟩ := hks
  obtain ⟨⟨rw, c11⟩, ⟨rs, c12⟩, ⟨st, c13⟩, ⟨nw, c14⟩, wd, c15⟩ := hsc
  refine r_iload_n (q := 1) C 3 dX8_pair_0 rfl rfl ?_
  refine r_if_ne_t (tgt := 45) C dX8_pair_1 (by decide) (by decide) ?_
  refine r_aload_n (q := 46) C 0 dX8_pair_45 rfl rfl ?_
  refine r_iconst (q := 47) C (nI 0) dX8_pair_46 (by decide) rfl ?_
  refine r_put (q := 50) (t := 0) (w' := wd_set w 0 m0 (mo ad tC tk nu gC rC fl (nI 0) fS)) C koX8 h0 17 (by decide) q717 rfl rfl rfl rfl (Nat.le_of_ble_eq_true rfl) dX8_pair_47 rfl rfl ?_
  refine r_iconst (q := 51) C (nI 0) dX8_pair_50 (by decide) rfl ?_
  refine r_istore (q := 53) (lv' := [(4, .int (nI 0)), (0, .ref m0), (1, .int (nI p9)), (2, .int (nI b9)), (3, .int (nI 1))]) C dX8_pair_51 (by decide) rfl rfl ?_
  refine r_sub (lv' := [(4, .int (nI 0)), (0, .ref m0), (1, .int (nI p9)), (2, .int (nI b9))]) [0, 1, 2, 3] rfl ?_
  have loopA : ∀ (u7 c : Nat) (rw1 : Nat → Int32) (w1 : wd_T), c + u7 = 64 → (w1 0 = some (m0, mo ad tC tk nu gC rC fl (nI c) fS)) → (w1 11 = some (ad 11, aB g 192 rw1)) → (∀ j, j < c → rw1 j = ((fun j => lv (32 * p9 + j)) j).toInt8.toInt32) → (∀ t, t ≠ 0 → t ≠ 11 → w1 t = w t) → V g k 5 w1 0 0 (kQ g k (fun v w' => v = none ∧ w' 16 = some (ad 16, aB g 6400 (clF lv (32 * b9) 32 (dig9 (sum9 64 (fun j => lv (32 * p9 + j)))))) ∧ ScAt g w' ad ∧ w' 0 = some (m0, mo ad tC tk nu gC rC fl (nI 128) fS) ∧ ∀ t, t ≠ 0 → (t < 11 ∨ 17 ≤ t) → w' t = w t) 0 0) 53 [(4, .int (nI c)), (0, .ref m0), (1, .int (nI p9)), (2, .int (nI b9))] [] := by
    intro u7
    induction u7 with
    | zero =>
      intro c rw1 w1 hi g0 g11 hA gf
      obtain rfl : 64 = c := by omega
      refine r_iload (q := 55) C 0 dX8_pair_53 rfl rfl ?_
      refine r_bipush (q := 57) C (nI 64) dX8_pair_55 (by decide) rfl ?_
      refine r_icmp_ge_t (tgt := 82) C dX8_pair_57 (by decide) ((nI_leI (a := 64) (b := 64) (by omega) (by omega)).mpr (by omega)) ?_
      refine r_aload_n (q := 83) C 1 dX8_pair_82 rfl rfl ?_
      refine r_callV (q := 86) (t := 0) (As := []) (st := []) C koX8 g0 (m_reckon (n := 64) (f9 := (fun j => lv (32 * p9 + j))) g0 ((gf 2 (by decide) (by decide)).trans c2) ((gf 1 (by decide) (by decide)).trans c1) g11 ((gf 12 (by decide) (by decide)).trans c12) ((gf 13 (by decide) (by decide)).trans c13) ((gf 14 (by decide) (by decide)).trans c14) ((gf 15 (by decide) (by decide)).trans c15) hcu hsq (by decide) (by decide) hA) q832 q829 q831 qp23 q9 rfl ⟨by decide, by decide⟩ (show (parseMethodDescriptor yX8_reckon.desc).map (fun d => d.parameters.length) = some 0 by decide +kernel) (by decide) (by decide) (by decide) (by decide) (Nat.le_of_ble_eq_true rfl) rfl dX8_pair_83 rfl ?_
      rintro v9 w5 ⟨rfl, ⟨rs5, e12, hrs⟩, ⟨rw5, st5, nw5, wd5, e0, e11, e13, e14, e15⟩, ef⟩
      show V g k 5 w5 0 0 (kQ g k (fun v w' => v = none ∧ w' 16 = some (ad 16, aB g 6400 (clF lv (32 * b9) 32 (dig9 (sum9 64 (fun j => lv (32 * p9 + j)))))) ∧ ScAt g w' ad ∧ w' 0 = some (m0, mo ad tC tk nu gC rC fl (nI 128) fS) ∧ ∀ t, t ≠ 0 → (t < 11 ∨ 17 ≤ t) → w' t = w t) 0 0) 86 [(4, .int (nI 64)), (0, .ref m0), (1, .int (nI p9)), (2, .int (nI b9))] []
      refine r_iconst (q := 87) C (nI 0) dX8_pair_86 (by decide) rfl ?_
      refine r_istore (q := 89) (lv' := [(4, .int (nI 0)), (0, .ref m0), (1, .int (nI p9)), (2, .int (nI b9))]) C dX8_pair_87 (by decide) rfl rfl ?_
      refine r_sub (lv' := [(4, .int (nI 0)), (0, .ref m0), (1, .int (nI p9)), (2, .int (nI b9))]) [0, 1, 2, 3] rfl ?_
      have loopC : ∀ (u8 c : Nat)  (w2 : wd_T), c + u8 = 32 → (w2 16 = some (ad 16, aB g 6400 (clF lv (32 * b9) c (dig9 (sum9 64 (fun j => lv (32 * p9 + j))))))) → (Fr w5 w2 16 17) → V g k 5 w2 0 0 (kQ g k (fun v w' => v = none ∧ w' 16 = some (ad 16, aB g 6400 (clF lv (32 * b9) 32 (dig9 (sum9 64 (fun j => lv (32 * p9 + j)))))) ∧ ScAt g w' ad ∧ w' 0 = some (m0, mo ad tC tk nu gC rC fl (nI 128) fS) ∧ ∀ t, t ≠ 0 → (t < 11 ∨ 17 ≤ t) → w' t = w t) 0 0) 89 [(4, .int (nI c)), (0, .ref m0), (1, .int (nI p9)), (2, .int (nI b9))] [] := by
        intro u8
        induction u8 with
        | zero =>
          intro c  w2 hi k16 hf1
          obtain rfl : 32 = c := by omega
          refine r_iload (q := 91) C 0 dX8_pair_89 rfl rfl ?_
          refine r_bipush (q := 93) C (nI 32) dX8_pair_91 (by decide) rfl ?_
          refine r_icmp_ge_t (tgt := 121) C dX8_pair_93 (by decide) ((nI_leI (a := 32) (b := 32) (by omega) (by omega)).mpr (by omega)) ?_
          exact r_vret C rfl (by decide) (by decide) dX8_pair_121 ⟨rfl, k16, ⟨⟨_, ((hf1 11 (by decide)).trans e11)⟩, ⟨_, ((hf1 12 (by decide)).trans e12)⟩, ⟨_, ((hf1 13 (by decide)).trans e13)⟩, ⟨_, ((hf1 14 (by decide)).trans e14)⟩, _, ((hf1 15 (by decide)).trans e15)⟩, ((hf1 0 (by decide)).trans e0), fun t a b => (hf1 t (by omega)).trans ((ef t a (by omega)).trans (gf t a (by omega)))⟩
        | succ u8 ih3 =>
          intro c  w2 hi k16 hf1
          refine r_iload (q := 91) C 0 dX8_pair_89 rfl rfl ?_
          refine r_bipush (q := 93) C (nI 32) dX8_pair_91 (by decide) rfl ?_
          refine r_icmp_ge_f (q := 96) (tgt := 121) C dX8_pair_93 (by decide) rfl (fun z => absurd ((nI_leI (a := 32) (b := c) (by omega) (by omega)).mp z) (by omega)) ?_
          refine r_aload_n (q := 97) C 1 dX8_pair_96 rfl rfl ?_
          refine r_get (q := 100) (t := 0) C koX8 ((hf1 0 (by decide)).trans e0) 22 (by decide) q722 rfl rfl dX8_pair_97 rfl ?_
          refine r_bipush (q := 102) C (nI 32) dX8_pair_100 (by decide) rfl ?_
          refine r_iload_n (q := 103) C 3 dX8_pair_102 rfl rfl ?_
          refine r_imul (q := 104) C dX8_pair_103 rfl ?_
          refine r_ti (show ((nI 32) * (nI b9) : Int32) = nI (32 * b9) from pk_mul 32 b9) ?_
          refine r_iload (q := 106) C 0 dX8_pair_104 rfl rfl ?_
          refine r_iadd (q := 107) C dX8_pair_106 rfl ?_
          refine r_ti (show ((nI (32 * b9)) + (nI c) : Int32) = nI (32 * b9 + c) from nI_add (32 * b9) c) ?_
          refine r_aload_n (q := 108) C 1 dX8_pair_107 rfl rfl ?_
          refine r_get (q := 111) (t := 0) C koX8 ((hf1 0 (by decide)).trans e0) 18 (by decide) q718 rfl rfl dX8_pair_108 rfl ?_
          refine r_iload (q := 113) C 0 dX8_pair_111 rfl rfl ?_
          refine r_bald (q := 114) (t := 12) C ((hf1 12 (by decide)).trans e12) c rfl (by omega) (by decide) dX8_pair_113 rfl ?_
          refine r_bast (q := 115) (t := 16) (w' := wd_set w2 16 (ad 16) (aB g 6400 (upd (clF lv (32 * b9) c (dig9 (sum9 64 (fun j => lv (32 * p9 + j))))) (32 * b9 + c) (rs5 c).toInt8.toInt32))) C k16 (32 * b9 + c) rfl (by omega) (by decide) dX8_pair_114 rfl rfl ?_
          refine r_iinc (q := 118) (v := nI (c + 1)) (lv' := [(4, .int (nI (c + 1))), (0, .ref m0), (1, .int (nI p9)), (2, .int (nI b9))]) C 0 dX8_pair_115 rfl (nI_1 c) (by decide) rfl rfl ?_
          refine r_goto (tgt := 89) C dX8_pair_118 (by decide) ?_
          refine r_sub (lv' := [(4, .int (nI (c + 1))), (0, .ref m0), (1, .int (nI p9)), (2, .int (nI b9))]) [0, 1, 2, 3] rfl ?_
          refine ih3 (c + 1) _ (by omega) ?_ (hf1.trans (Fr.set (by decide) (by decide)))
          rw [← clF_s (x := (rs5 c).toInt8.toInt32) (by rw [hrs c (by omega), dig9_8])]
          exact wd_eq
      exact loopC 32 0 w5 (by omega) (by rw [clF_0]; exact (ef 16 (by decide) (by decide)).trans ((gf 16 (by decide) (by decide)).trans h16)) Fr.rfl'
    | succ u7 ih =>
      intro c rw1 w1 hi g0 g11 hA gf
      refine r_iload (q := 55) C 0 dX8_pair_53 rfl rfl ?_
      refine r_bipush (q := 57) C (nI 64) dX8_pair_55 (by decide) rfl ?_
      refine r_icmp_ge_f (q := 60) (tgt := 82) C dX8_pair_57 (by decide) rfl (fun z => absurd ((nI_leI (a := 64) (b := c) (by omega) (by omega)).mp z) (by omega)) ?_
      refine r_aload_n (q := 61) C 1 dX8_pair_60 rfl rfl ?_
      refine r_aload_n (q := 62) C 1 dX8_pair_61 rfl rfl ?_
      refine r_get (q := 65) (t := 0) C koX8 g0 22 (by decide) q722 rfl rfl dX8_pair_62 rfl ?_
      refine r_bipush (q := 67) C (nI 32) dX8_pair_65 (by decide) rfl ?_
      refine r_iload_n (q := 68) C 2 dX8_pair_67 rfl rfl ?_
      refine r_imul (q := 69) C dX8_pair_68 rfl ?_
      refine r_ti (show ((nI 32) * (nI p9) : Int32) = nI (32 * p9) from pk_mul 32 p9) ?_
      refine r_iload (q := 71) C 0 dX8_pair_69 rfl rfl ?_
      refine r_iadd (q := 72) C dX8_pair_71 rfl ?_
      refine r_ti (show ((nI (32 * p9)) + (nI c) : Int32) = nI (32 * p9 + c) from nI_add (32 * p9) c) ?_
      refine r_bald (q := 73) (t := 16) C ((gf 16 (by decide) (by decide)).trans h16) (32 * p9 + c) rfl (by omega) (by decide) dX8_pair_72 rfl ?_
      refine r_callV (q := 76) (t := 0) (As := [.int (lv (32 * p9 + c))]) (st := []) C koX8 g0 (m_lay g0 g11 (by omega)) q828 q825 q827 qp22 q9 rfl ⟨by decide, by decide⟩ (show (parseMethodDescriptor yX8_lay.desc).map (fun d => d.parameters.length) = some 1 by decide +kernel) (by decide) (by decide) (by decide) (by decide) (Nat.le_of_ble_eq_true rfl) rfl dX8_pair_73 rfl ?_
      rintro v9 w6 ⟨rfl, e40, e41, e4f⟩
      show V g k 5 w6 0 0 (kQ g k (fun v w' => v = none ∧ w' 16 = some (ad 16, aB g 6400 (clF lv (32 * b9) 32 (dig9 (sum9 64 (fun j => lv (32 * p9 + j)))))) ∧ ScAt g w' ad ∧ w' 0 = some (m0, mo ad tC tk nu gC rC fl (nI 128) fS) ∧ ∀ t, t ≠ 0 → (t < 11 ∨ 17 ≤ t) → w' t = w t) 0 0) 76 [(4, .int (nI c)), (0, .ref m0), (1, .int (nI p9)), (2, .int (nI b9))] []
      refine r_iinc (q := 79) (v := nI (c + 1)) (lv' := [(4, .int (nI (c + 1))), (0, .ref m0), (1, .int (nI p9)), (2, .int (nI b9))]) C 0 dX8_pair_76 rfl (nI_1 c) (by decide) rfl rfl ?_
      refine r_goto (tgt := 53) C dX8_pair_79 (by decide) ?_
      refine r_sub (lv' := [(4, .int (nI (c + 1))), (0, .ref m0), (1, .int (nI p9)), (2, .int (nI b9))]) [0, 1, 2, 3] rfl ?_
      refine ih (c + 1) _ _ (by omega) e40 e41 (fun j hj => ?_) (fun t a b => (e4f t a b).trans (gf t a b))
      unfold upd
      by_cases z : j = c
      · rw [if_pos z, z]
      · rw [if_neg z, hA j (by omega)]
  exact loopA 64 0 rw _ (by omega) wd_eq ((wd_ne (by decide)).trans c11) (fun j hj => absurd hj (Nat.not_lt_zero j)) (fun t a b => wd_ne a)
