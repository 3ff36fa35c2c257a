/-! the reference: what stands for the state; isIn, canBe, isTicket, isRow, isVoid, tareOf -/
def MdAt (g : cx_G) (w : wd_T) (m0 : Nat) (fl : Int32) (tk gN rN tN : Nat) (fn wn : Nat → Nat) (gp by9 rD tD tV tT : Nat → Int32) : Prop := ∃ (ad : Nat → Nat) (rS fS : Int32) (lv fo : Nat → Int32),
  w 0 = some (m0, mo ad (nI tN) (nI tk) (nI (tk + gN)) (nI gN) (nI rN) fl rS fS) ∧ KsAt g w ad ∧ w 3 = some (ad 3, aI g 1100 tD) ∧ w 4 = some (ad 4, aI g 1100 tV) ∧ w 5 = some (ad 5, aI g 1100 tT) ∧ w 6 = some (ad 6, aL g 1800 (fun p => lN (fn p))) ∧ w 7 = some (ad 7, aI g 1600 (fun p => nI (wn p))) ∧ w 8 = some (ad 8, aI g 400 gp) ∧ w 9 = some (ad 9, aB g 14600 by9) ∧ w 10 = some (ad 10, aI g 200 rD) ∧ ScAt g w ad ∧ w 16 = some (ad 16, aB g 6400 lv) ∧ w 17 = some (ad 17, aB g 120 fo)
theorem MdAt.kept {g : cx_G} {w w' : wd_T} {m0 : Nat} {fl : Int32} {tk gN rN tN : Nat} {fn wn : Nat → Nat} {gp by9 rD tD tV tT : Nat → Int32} (h : MdAt g w m0 fl tk gN rN tN fn wn gp by9 rD tD tV tT) (e : ∀ t, t < 18 → w' t = w t) : MdAt g w' m0 fl tk gN rN tN fn wn gp by9 rD tD tV tT := by
  obtain ⟨ad, rS, fS, lv, fo, h0, hks, h3, h4, h5, h6, h7, h8, h9, h10, hsc, h16, h17⟩ := h
  exact ⟨ad, rS, fS, lv, fo, (e 0 (by decide)).trans h0, hks.kept (fun t _ _ => e t (by omega)), (e 3 (by decide)).trans h3, (e 4 (by decide)).trans h4, (e 5 (by decide)).trans h5, (e 6 (by decide)).trans h6, (e 7 (by decide)).trans h7, (e 8 (by decide)).trans h8, (e 9 (by decide)).trans h9, (e 10 (by decide)).trans h10, hsc.kept (fun t _ _ => e t (by omega)), (e 16 (by decide)).trans h16, (e 17 (by decide)).trans h17⟩
def Fm (w w' : wd_T) : Prop := ∀ t, 18 ≤ t → w' t = w t
set_option maxHeartbeats 4000000 in
set_option maxRecDepth 20000 in
theorem m_in_y {l : Launch} {g : cx_G} {w : wd_T} {n b : Nat} (hn : n ≤ b) (hb : b ≤ 8000000000) : Mt l g yX8_isIn cX8_isIn 4 (some .boolean) 0 0 0 w [.long (lN n), .long (lN b)] (fun v9 w' => v9 = some (.int (nI 1)) ∧ w = w') := by
  refine mt_of RX8 "isIn" rfl rfl (by decide) (Nat.le_of_ble_eq_true rfl) [(0, .long (lN n)), (2, .long (lN b))] rfl ?_
  intro k hkl C hin
  subst hkl
  refine r_lload_n (q := 1) C 0 dX8_isIn_0 rfl rfl ?_
  refine r_lconst (q := 2) C (lN 0) dX8_isIn_1 (by decide) rfl ?_
  refine r_lcmp_lt (q := 3) (q2 := 6) (tgt := 16) C dX8_isIn_2 rfl dX8_isIn_3 (by decide) rfl (fun hz1 => absurd (fun z => absurd ((pk_lLT (a := n) (b := 0) (by omega) (by omega)).mp z) (by omega)) (by first | exact hz1 | exact fun zz => zz hz1)) (fun _ => ?_)
  refine r_lload_n (q := 7) C 0 dX8_isIn_6 rfl rfl ?_
  refine r_lload_n (q := 8) C 1 dX8_isIn_7 rfl rfl ?_
  refine r_lcmp_gt (q := 9) (q2 := 12) (tgt := 16) C dX8_isIn_8 rfl dX8_isIn_9 (by decide) rfl (fun hz2 => absurd (fun z => absurd ((pk_lLT (a := b) (b := n) (by omega) (by omega)).mp z) (by omega)) (by first | exact hz2 | exact fun zz => zz hz2)) (fun _ => ?_)
  refine r_iconst (q := 13) C (nI 1) dX8_isIn_12 (by decide) rfl ?_
  refine r_goto (tgt := 17) C dX8_isIn_13 (by decide) ?_
  exact r_zret C rfl rfl (by decide) (by decide) dX8_isIn_17 ⟨rfl, rfl⟩

set_option maxHeartbeats 4000000 in
set_option maxRecDepth 20000 in
theorem m_in_n {l : Launch} {g : cx_G} {w : wd_T} {v : Int64} {b : Nat} (hv : ¬ ∃ n, n ≤ b ∧ v = lN n) (hb : b ≤ 8000000000) : Mt l g yX8_isIn cX8_isIn 4 (some .boolean) 0 0 0 w [.long v, .long (lN b)] (fun v9 w' => v9 = some (.int (nI 0)) ∧ w = w') := by
  refine mt_of RX8 "isIn" rfl rfl (by decide) (Nat.le_of_ble_eq_true rfl) [(0, .long v), (2, .long (lN b))] rfl ?_
  intro k hkl C hin
  subst hkl
  refine r_lload_n (q := 1) C 0 dX8_isIn_0 rfl rfl ?_
  refine r_lconst (q := 2) C (lN 0) dX8_isIn_1 (by decide) rfl ?_
  refine r_lcmp_lt (q := 3) (q2 := 6) (tgt := 16) C dX8_isIn_2 rfl dX8_isIn_3 (by decide) rfl (fun hc1 => ?_) (fun hc1 => ?_)
  · refine r_iconst (q := 17) C (nI 0) dX8_isIn_16 (by decide) rfl ?_
    exact r_zret C rfl rfl (by decide) (by decide) dX8_isIn_17 ⟨rfl, rfl⟩
  · obtain ⟨n, hn, rfl⟩ := pk_lOf hc1
    refine r_lload_n (q := 7) C 0 dX8_isIn_6 rfl rfl ?_
    refine r_lload_n (q := 8) C 1 dX8_isIn_7 rfl rfl ?_
    refine r_lcmp_gt (q := 9) (q2 := 12) (tgt := 16) C dX8_isIn_8 rfl dX8_isIn_9 (by decide) rfl (fun _ => ?_) (fun hz4 => absurd ((pk_lLT (a := b) (b := n) (by omega) (by omega)).mpr (by rcases Nat.lt_or_ge b n with z | z; exact z; exact absurd ⟨n, z, rfl⟩ hv)) (by first | exact hz4 | exact fun zz => zz hz4))
    refine r_iconst (q := 17) C (nI 0) dX8_isIn_16 (by decide) rfl ?_
    exact r_zret C rfl rfl (by decide) (by decide) dX8_isIn_17 ⟨rfl, rfl⟩

set_option maxHeartbeats 4000000 in
set_option maxRecDepth 20000 in
theorem m_cb_y {l : Launch} {g : cx_G} {w : wd_T} {f n : Nat} (hf : cb9 f) (hn : n ≤ mx9 f) : Mt l g yX8_canBe cX8_canBe 3 (some .boolean) 1 0 0 w [.int (nI f), .long (lN n)] (fun v9 w' => v9 = some (.int (nI 1)) ∧ w = w') := by
  refine mt_of RX8 "canBe" rfl rfl (by decide) (Nat.le_of_ble_eq_true rfl) [(0, .int (nI f)), (1, .long (lN n))] rfl ?_
  intro k hkl C hin
  subst hkl
  rcases hf with rfl | rfl | rfl | rfl | rfl | rfl
  · refine r_iload_n (q := 1) C 0 dX8_canBe_0 rfl rfl ?_
    refine r_tableIn (tgt := 44) (off := 43) C dX8_canBe_1 (by decide) (by decide) rfl (by decide) ?_
    refine r_lload_n (q := 45) C 1 dX8_canBe_44 rfl rfl ?_
    refine r_ldc2 (q := 48) (v := lN 99) C dX8_canBe_45 q788 rfl ?_
    refine r_callS (q := 51) (As := [.long (lN n), .long (lN 99)]) (st := []) C (m_in_y (b := 99) hn (by decide)) q787 q785 q786 q9 ⟨by decide, by decide⟩ (show (parseMethodDescriptor yX8_isIn.desc).map (fun d => d.parameters.length) = some 2 by decide +kernel) (by decide) (by decide) (by decide) (by decide) (Nat.le_of_ble_eq_true rfl) rfl dX8_canBe_48 rfl ?_
    rintro v9 w1 ⟨rfl, rfl⟩
    show V g k 3 w 0 0 (kQ g k (fun v9 w' => v9 = some (.int (nI 1)) ∧ w = w') 0 0) 51 [(0, .int (nI 1)), (1, .long (lN n))] [.int (nI 1)]
    exact r_zret C rfl rfl (by decide) (by decide) dX8_canBe_51 ⟨rfl, rfl⟩
  · refine r_iload_n (q := 1) C 0 dX8_canBe_0 rfl rfl ?_
    refine r_tableIn (tgt := 52) (off := 51) C dX8_canBe_1 (by decide) (by decide) rfl (by decide) ?_
    refine r_lload_n (q := 53) C 1 dX8_canBe_52 rfl rfl ?_
    refine r_ldc2 (q := 56) (v := lN 9) C dX8_canBe_53 q797 rfl ?_
    refine r_callS (q := 59) (As := [.long (lN n), .long (lN 9)]) (st := []) C (m_in_y (b := 9) hn (by decide)) q787 q785 q786 q9 ⟨by decide, by decide⟩ (show (parseMethodDescriptor yX8_isIn.desc).map (fun d => d.parameters.length) = some 2 by decide +kernel) (by decide) (by decide) (by decide) (by decide) (Nat.le_of_ble_eq_true rfl) rfl dX8_canBe_56 rfl ?_
    rintro v9 w2 ⟨rfl, rfl⟩
    show V g k 3 w 0 0 (kQ g k (fun v9 w' => v9 = some (.int (nI 1)) ∧ w = w') 0 0) 59 [(0, .int (nI 2)), (1, .long (lN n))] [.int (nI 1)]
    exact r_zret C rfl rfl (by decide) (by decide) dX8_canBe_59 ⟨rfl, rfl⟩
  · refine r_iload_n (q := 1) C 0 dX8_canBe_0 rfl rfl ?_
    refine r_tableIn (tgt := 60) (off := 59) C dX8_canBe_1 (by decide) (by decide) rfl (by decide) ?_
    refine r_lload_n (q := 61) C 1 dX8_canBe_60 rfl rfl ?_
    refine r_ldc2 (q := 64) (v := lN 1000000000) C dX8_canBe_61 q789 rfl ?_
    refine r_callS (q := 67) (As := [.long (lN n), .long (lN 1000000000)]) (st := []) C (m_in_y (b := 1000000000) hn (by decide)) q787 q785 q786 q9 ⟨by decide, by decide⟩ (show (parseMethodDescriptor yX8_isIn.desc).map (fun d => d.parameters.length) = some 2 by decide +kernel) (by decide) (by decide) (by decide) (by decide) (Nat.le_of_ble_eq_true rfl) rfl dX8_canBe_64 rfl ?_
    rintro v9 w3 ⟨rfl, rfl⟩
    show V g k 3 w 0 0 (kQ g k (fun v9 w' => v9 = some (.int (nI 1)) ∧ w = w') 0 0) 67 [(0, .int (nI 3)), (1, .long (lN n))] [.int (nI 1)]
    exact r_zret C rfl rfl (by decide) (by decide) dX8_canBe_67 ⟨rfl, rfl⟩
  · refine r_iload_n (q := 1) C 0 dX8_canBe_0 rfl rfl ?_
    refine r_tableIn (tgt := 60) (off := 59) C dX8_canBe_1 (by decide) (by decide) rfl (by decide) ?_
    refine r_lload_n (q := 61) C 1 dX8_canBe_60 rfl rfl ?_
    refine r_ldc2 (q := 64) (v := lN 1000000000) C dX8_canBe_61 q789 rfl ?_
    refine r_callS (q := 67) (As := [.long (lN n), .long (lN 1000000000)]) (st := []) C (m_in_y (b := 1000000000) hn (by decide)) q787 q785 q786 q9 ⟨by decide, by decide⟩ (show (parseMethodDescriptor yX8_isIn.desc).map (fun d => d.parameters.length) = some 2 by decide +kernel) (by decide) (by decide) (by decide) (by decide) (Nat.le_of_ble_eq_true rfl) rfl dX8_canBe_64 rfl ?_
    rintro v9 w4 ⟨rfl, rfl⟩
    show V g k 3 w 0 0 (kQ g k (fun v9 w' => v9 = some (.int (nI 1)) ∧ w = w') 0 0) 67 [(0, .int (nI 4)), (1, .long (lN n))] [.int (nI 1)]
    exact r_zret C rfl rfl (by decide) (by decide) dX8_canBe_67 ⟨rfl, rfl⟩
  · refine r_iload_n (q := 1) C 0 dX8_canBe_0 rfl rfl ?_
    refine r_tableIn (tgt := 68) (off := 67) C dX8_canBe_1 (by decide) (by decide) rfl (by decide) ?_
    refine r_lload_n (q := 69) C 1 dX8_canBe_68 rfl rfl ?_
    refine r_ldc2 (q := 72) (v := lN 8000000000) C dX8_canBe_69 q798 rfl ?_
    refine r_callS (q := 75) (As := [.long (lN n), .long (lN 8000000000)]) (st := []) C (m_in_y (b := 8000000000) hn (by decide)) q787 q785 q786 q9 ⟨by decide, by decide⟩ (show (parseMethodDescriptor yX8_isIn.desc).map (fun d => d.parameters.length) = some 2 by decide +kernel) (by decide) (by decide) (by decide) (by decide) (Nat.le_of_ble_eq_true rfl) rfl dX8_canBe_72 rfl ?_
    rintro v9 w5 ⟨rfl, rfl⟩
    show V g k 3 w 0 0 (kQ g k (fun v9 w' => v9 = some (.int (nI 1)) ∧ w = w') 0 0) 75 [(0, .int (nI 6)), (1, .long (lN n))] [.int (nI 1)]
    exact r_zret C rfl rfl (by decide) (by decide) dX8_canBe_75 ⟨rfl, rfl⟩
  · refine r_iload_n (q := 1) C 0 dX8_canBe_0 rfl rfl ?_
    refine r_tableIn (tgt := 76) (off := 75) C dX8_canBe_1 (by decide) (by decide) rfl (by decide) ?_
    refine r_lload_n (q := 77) C 1 dX8_canBe_76 rfl rfl ?_
    refine r_ldc2 (q := 80) (v := lN 999) C dX8_canBe_77 q799 rfl ?_
    refine r_callS (q := 83) (As := [.long (lN n), .long (lN 999)]) (st := []) C (m_in_y (b := 999) hn (by decide)) q787 q785 q786 q9 ⟨by decide, by decide⟩ (show (parseMethodDescriptor yX8_isIn.desc).map (fun d => d.parameters.length) = some 2 by decide +kernel) (by decide) (by decide) (by decide) (by decide) (Nat.le_of_ble_eq_true rfl) rfl dX8_canBe_80 rfl ?_
    rintro v9 w6 ⟨rfl, rfl⟩
    show V g k 3 w 0 0 (kQ g k (fun v9 w' => v9 = some (.int (nI 1)) ∧ w = w') 0 0) 83 [(0, .int (nI 7)), (1, .long (lN n))] [.int (nI 1)]
    exact r_zret C rfl rfl (by decide) (by decide) dX8_canBe_83 ⟨rfl, rfl⟩

set_option maxHeartbeats 4000000 in
set_option maxRecDepth 20000 in
theorem m_cb_n {l : Launch} {g : cx_G} {w : wd_T} {x : Int32} {v : Int64} (hx : ¬ ok9 x v) : Mt l g yX8_canBe cX8_canBe 3 (some .boolean) 1 0 0 w [.int x, .long v] (fun v9 w' => v9 = some (.int (nI 0)) ∧ w = w') := by
  refine mt_of RX8 "canBe" rfl rfl (by decide) (Nat.le_of_ble_eq_true rfl) [(0, .int x), (1, .long v)] rfl ?_
  intro k hkl C hin
  subst hkl
  rcases pk_ix x (n := 8) (by decide) with h9 | h9 | ⟨j, hj, rfl⟩
  · refine r_iload_n (q := 1) C 0 dX8_canBe_0 rfl rfl ?_
    refine r_tableOut (tgt := 84) C dX8_canBe_1 (Or.inl (by have := i32_neg h9; omega)) (by decide) ?_
    refine r_iconst (q := 85) C (nI 0) dX8_canBe_84 (by decide) rfl ?_
    exact r_zret C rfl rfl (by decide) (by decide) dX8_canBe_85 ⟨rfl, rfl⟩
  · refine r_iload_n (q := 1) C 0 dX8_canBe_0 rfl rfl ?_
    refine r_tableOut (tgt := 84) C dX8_canBe_1 (Or.inr (i32_ge8 h9)) (by decide) ?_
    refine r_iconst (q := 85) C (nI 0) dX8_canBe_84 (by decide) rfl ?_
    exact r_zret C rfl rfl (by decide) (by decide) dX8_canBe_85 ⟨rfl, rfl⟩
  · have c : j = 0 ∨ j = 5 ∨ (j = 1 ∨ j = 2 ∨ j = 3 ∨ j = 4 ∨ j = 6 ∨ j = 7) := by omega
    rcases c with rfl | rfl | rfl | rfl | rfl | rfl | rfl | rfl
    · refine r_iload_n (q := 1) C 0 dX8_canBe_0 rfl rfl ?_
      refine r_tableOut (tgt := 84) C dX8_canBe_1 (Or.inl (by decide)) (by decide) ?_
      refine r_iconst (q := 85) C (nI 0) dX8_canBe_84 (by decide) rfl ?_
      exact r_zret C rfl rfl (by decide) (by decide) dX8_canBe_85 ⟨rfl, rfl⟩
    · refine r_iload_n (q := 1) C 0 dX8_canBe_0 rfl rfl ?_
      refine r_tableIn (tgt := 84) (off := 83) C dX8_canBe_1 (by decide) (by decide) rfl (by decide) ?_
      refine r_iconst (q := 85) C (nI 0) dX8_canBe_84 (by decide) rfl ?_
      exact r_zret C rfl rfl (by decide) (by decide) dX8_canBe_85 ⟨rfl, rfl⟩
    · refine r_iload_n (q := 1) C 0 dX8_canBe_0 rfl rfl ?_
      refine r_tableIn (tgt := 44) (off := 43) C dX8_canBe_1 (by decide) (by decide) rfl (by decide) ?_
      refine r_lload_n (q := 45) C 1 dX8_canBe_44 rfl rfl ?_
      refine r_ldc2 (q := 48) (v := lN 99) C dX8_canBe_45 q788 rfl ?_
      refine r_callS (q := 51) (As := [.long v, .long (lN 99)]) (st := []) C (m_in_n (b := 99) (fun ⟨n, hn, e⟩ => hx ⟨1, n, rfl, by unfold cb9; omega, hn, e⟩) (by decide)) q787 q785 q786 q9 ⟨by decide, by decide⟩ (show (parseMethodDescriptor yX8_isIn.desc).map (fun d => d.parameters.length) = some 2 by decide +kernel) (by decide) (by decide) (by decide) (by decide) (Nat.le_of_ble_eq_true rfl) rfl dX8_canBe_48 rfl ?_
      rintro v9 w1 ⟨rfl, rfl⟩
      show V g k 3 w 0 0 (kQ g k (fun v9 w' => v9 = some (.int (nI 0)) ∧ w = w') 0 0) 51 [(0, .int (nI 1)), (1, .long v)] [.int (nI 0)]
      exact r_zret C rfl rfl (by decide) (by decide) dX8_canBe_51 ⟨rfl, rfl⟩
    · refine r_iload_n (q := 1) C 0 dX8_canBe_0 rfl rfl ?_
      refine r_tableIn (tgt := 52) (off := 51) C dX8_canBe_1 (by decide) (by decide) rfl (by decide) ?_
      refine r_lload_n (q := 53) C 1 dX8_canBe_52 rfl rfl ?_
      refine r_ldc2 (q := 56) (v := lN 9) C dX8_canBe_53 q797 rfl ?_
      refine r_callS (q := 59) (As := [.long v, .long (lN 9)]) (st := []) C (m_in_n (b := 9) (fun ⟨n, hn, e⟩ => hx ⟨2, n, rfl, by unfold cb9; omega, hn, e⟩) (by decide)) q787 q785 q786 q9 ⟨by decide, by decide⟩ (show (parseMethodDescriptor yX8_isIn.desc).map (fun d => d.parameters.length) = some 2 by decide +kernel) (by decide) (by decide) (by decide) (by decide) (Nat.le_of_ble_eq_true rfl) rfl dX8_canBe_56 rfl ?_
      rintro v9 w2 ⟨rfl, rfl⟩
      show V g k 3 w 0 0 (kQ g k (fun v9 w' => v9 = some (.int (nI 0)) ∧ w = w') 0 0) 59 [(0, .int (nI 2)), (1, .long v)] [.int (nI 0)]
      exact r_zret C rfl rfl (by decide) (by decide) dX8_canBe_59 ⟨rfl, rfl⟩
    · refine r_iload_n (q := 1) C 0 dX8_canBe_0 rfl rfl ?_
      refine r_tableIn (tgt := 60) (off := 59) C dX8_canBe_1 (by decide) (by decide) rfl (by decide) ?_
      refine r_lload_n (q := 61) C 1 dX8_canBe_60 rfl rfl ?_
      refine r_ldc2 (q := 64) (v := lN 1000000000) C dX8_canBe_61 q789 rfl ?_
      refine r_callS (q := 67) (As := [.long v, .long (lN 1000000000)]) (st := []) C (m_in_n (b := 1000000000) (fun ⟨n, hn, e⟩ => hx ⟨3, n, rfl, by unfold cb9; omega, hn, e⟩) (by decide)) q787 q785 q786 q9 ⟨by decide, by decide⟩ (show (parseMethodDescriptor yX8_isIn.desc).map (fun d => d.parameters.length) = some 2 by decide +kernel) (by decide) (by decide) (by decide) (by decide) (Nat.le_of_ble_eq_true rfl) rfl dX8_canBe_64 rfl ?_
      rintro v9 w3 ⟨rfl, rfl⟩
      show V g k 3 w 0 0 (kQ g k (fun v9 w' => v9 = some (.int (nI 0)) ∧ w = w') 0 0) 67 [(0, .int (nI 3)), (1, .long v)] [.int (nI 0)]
      exact r_zret C rfl rfl (by decide) (by decide) dX8_canBe_67 ⟨rfl, rfl⟩
    · refine r_iload_n (q := 1) C 0 dX8_canBe_0 rfl rfl ?_
      refine r_tableIn (tgt := 60) (off := 59) C dX8_canBe_1 (by decide) (by decide) rfl (by decide) ?_
      refine r_lload_n (q := 61) C 1 dX8_canBe_60 rfl rfl ?_
      refine r_ldc2 (q := 64) (v := lN 1000000000) C dX8_canBe_61 q789 rfl ?_
      refine r_callS (q := 67) (As := [.long v, .long (lN 1000000000)]) (st := []) C (m_in_n (b := 1000000000) (fun ⟨n, hn, e⟩ => hx ⟨4, n, rfl, by unfold cb9; omega, hn, e⟩) (by decide)) q787 q785 q786 q9 ⟨by decide, by decide⟩ (show (parseMethodDescriptor yX8_isIn.desc).map (fun d => d.parameters.length) = some 2 by decide +kernel) (by decide) (by decide) (by decide) (by decide) (Nat.le_of_ble_eq_true rfl) rfl dX8_canBe_64 rfl ?_
      rintro v9 w4 ⟨rfl, rfl⟩
      show V g k 3 w 0 0 (kQ g k (fun v9 w' => v9 = some (.int (nI 0)) ∧ w = w') 0 0) 67 [(0, .int (nI 4)), (1, .long v)] [.int (nI 0)]
      exact r_zret C rfl rfl (by decide) (by decide) dX8_canBe_67 ⟨rfl, rfl⟩
    · refine r_iload_n (q := 1) C 0 dX8_canBe_0 rfl rfl ?_
      refine r_tableIn (tgt := 68) (off := 67) C dX8_canBe_1 (by decide) (by decide) rfl (by decide) ?_
      refine r_lload_n (q := 69) C 1 dX8_canBe_68 rfl rfl ?_
      refine r_ldc2 (q := 72) (v := lN 8000000000) C dX8_canBe_69 q798 rfl ?_
      refine r_callS (q := 75) (As := [.long v, .long (lN 8000000000)]) (st := []) C (m_in_n (b := 8000000000) (fun ⟨n, hn, e⟩ => hx ⟨6, n, rfl, by unfold cb9; omega, hn, e⟩) (by decide)) q787 q785 q786 q9 ⟨by decide, by decide⟩ (show (parseMethodDescriptor yX8_isIn.desc).map (fun d => d.parameters.length) = some 2 by decide +kernel) (by decide) (by decide) (by decide) (by decide) (Nat.le_of_ble_eq_true rfl) rfl dX8_canBe_72 rfl ?_
      rintro v9 w5 ⟨rfl, rfl⟩
      show V g k 3 w 0 0 (kQ g k (fun v9 w' => v9 = some (.int (nI 0)) ∧ w = w') 0 0) 75 [(0, .int (nI 6)), (1, .long v)] [.int (nI 0)]
      exact r_zret C rfl rfl (by decide) (by decide) dX8_canBe_75 ⟨rfl, rfl⟩
    · refine r_iload_n (q := 1) C 0 dX8_canBe_0 rfl rfl ?_
      refine r_tableIn (tgt := 76) (off := 75) C dX8_canBe_1 (by decide) (by decide) rfl (by decide) ?_
      refine r_lload_n (q := 77) C 1 dX8_canBe_76 rfl rfl ?_
      refine r_ldc2 (q := 80) (v := lN 999) C dX8_canBe_77 q799 rfl ?_
      refine r_callS (q := 83) (As := [.long v, .long (lN 999)]) (st := []) C (m_in_n (b := 999) (fun ⟨n, hn, e⟩ => hx ⟨7, n, rfl, by unfold cb9; omega, hn, e⟩) (by decide)) q787 q785 q786 q9 ⟨by decide, by decide⟩ (show (parseMethodDescriptor yX8_isIn.desc).map (fun d => d.parameters.length) = some 2 by decide +kernel) (by decide) (by decide) (by decide) (by decide) (Nat.le_of_ble_eq_true rfl) rfl dX8_canBe_80 rfl ?_
      rintro v9 w6 ⟨rfl, rfl⟩
      show V g k 3 w 0 0 (kQ g k (fun v9 w' => v9 = some (.int (nI 0)) ∧ w = w') 0 0) 83 [(0, .int (nI 7)), (1, .long v)] [.int (nI 0)]
      exact r_zret C rfl rfl (by decide) (by decide) dX8_canBe_83 ⟨rfl, rfl⟩

set_option maxHeartbeats 4000000 in
set_option maxRecDepth 20000 in
theorem m_ist_y {l : Launch} {g : cx_G} {w : wd_T} {m0 : Nat} {ad : Nat → Nat} {tC nu rC gC fl rS fS : Int32} {tk : Nat} (h0 : w 0 = some (m0, mo ad tC (nI tk) nu gC rC fl rS fS)) (hn : tk ≤ 300) {i : Nat} (hi : i < tk) : Mt l g yX8_isTicket cX8_isTicket 2 (some .boolean) 0 0 0 w [.ref m0, .int (nI i)] (fun v w' => v = some (.int (nI 1)) ∧ w' 0 = some (m0, mo ad tC (nI tk) nu gC rC (nI 0) rS fS) ∧ ∀ t, t ≠ 0 → w' t = w t) := by
  refine mt_of RX8 "isTicket" rfl rfl (by decide) (Nat.le_of_ble_eq_true rfl) [(0, .ref m0), (1, .int (nI i))] rfl ?_
  intro k hkl C hin
  subst hkl
  refine r_aload_n (q := 1) C 0 dX8_isTicket_0 rfl rfl ?_
  refine r_iconst (q := 2) C (nI 0) dX8_isTicket_1 (by decide) rfl ?_
  refine r_put (q := 5) (t := 0) (w' := wd_set w 0 m0 (mo ad tC (nI tk) nu gC rC (nI 0) rS fS)) C koX8 h0 15 (by decide) q715 rfl rfl rfl rfl (Nat.le_of_ble_eq_true rfl) dX8_isTicket_2 rfl rfl ?_
  refine r_iload_n (q := 6) C 1 dX8_isTicket_5 rfl rfl ?_
  refine r_if_lt_f (q := 9) (tgt := 21) C dX8_isTicket_6 (by decide) rfl (nI_pos (by omega)) ?_
  refine r_iload_n (q := 10) C 1 dX8_isTicket_9 rfl rfl ?_
  refine r_aload_n (q := 11) C 0 dX8_isTicket_10 rfl rfl ?_
  refine r_get (q := 14) (t := 0) C koX8 wd_eq 8 (by decide) q708 rfl rfl dX8_isTicket_11 rfl ?_
  refine r_icmp_ge_f (q := 17) (tgt := 21) C dX8_isTicket_14 (by decide) rfl (fun z => absurd ((nI_leI (a := tk) (b := i) (by omega) (by omega)).mp z) (by omega)) ?_
  refine r_iconst (q := 18) C (nI 1) dX8_isTicket_17 (by decide) rfl ?_
  refine r_goto (tgt := 22) C dX8_isTicket_18 (by decide) ?_
  exact r_zret C rfl rfl (by decide) (by decide) dX8_isTicket_22 ⟨rfl, wd_eq, fun t h => wd_ne h⟩

set_option maxHeartbeats 4000000 in
set_option maxRecDepth 20000 in
theorem m_ist_n {l : Launch} {g : cx_G} {w : wd_T} {m0 : Nat} {ad : Nat → Nat} {tC nu rC gC fl rS fS : Int32} {tk : Nat} (h0 : w 0 = some (m0, mo ad tC (nI tk) nu gC rC fl rS fS)) (hn : tk ≤ 300) {x : Int32} (hx : x < 0 ∨ nI tk ≤ x) : Mt l g yX8_isTicket cX8_isTicket 2 (some .boolean) 0 0 0 w [.ref m0, .int x] (fun v w' => v = some (.int (nI 0)) ∧ w' 0 = some (m0, mo ad tC (nI tk) nu gC rC (nI 0) rS fS) ∧ ∀ t, t ≠ 0 → w' t = w t) := by
  refine mt_of RX8 "isTicket" rfl rfl (by decide) (Nat.le_of_ble_eq_true rfl) [(0, .ref m0), (1, .int x)] rfl ?_
  intro k hkl C hin
  subst hkl
  refine r_aload_n (q := 1) C 0 dX8_isTicket_0 rfl rfl ?_
  refine r_iconst (q := 2) C (nI 0) dX8_isTicket_1 (by decide) rfl ?_
  refine r_put (q := 5) (t := 0) (w' := wd_set w 0 m0 (mo ad tC (nI tk) nu gC rC (nI 0) rS fS)) C koX8 h0 15 (by decide) q715 rfl rfl rfl rfl (Nat.le_of_ble_eq_true rfl) dX8_isTicket_2 rfl rfl ?_
  refine r_iload_n (q := 6) C 1 dX8_isTicket_5 rfl rfl ?_
  refine r_if_lt (q := 9) (tgt := 21) C dX8_isTicket_6 (by decide) rfl (fun hc1 => ?_) (fun hc1 => ?_)
  · refine r_iconst (q := 22) C (nI 0) dX8_isTicket_21 (by decide) rfl ?_
    exact r_zret C rfl rfl (by decide) (by decide) dX8_isTicket_22 ⟨rfl, wd_eq, fun t h => wd_ne h⟩
  · refine r_iload_n (q := 10) C 1 dX8_isTicket_9 rfl rfl ?_
    refine r_aload_n (q := 11) C 0 dX8_isTicket_10 rfl rfl ?_
    refine r_get (q := 14) (t := 0) C koX8 wd_eq 8 (by decide) q708 rfl rfl dX8_isTicket_11 rfl ?_
    refine r_icmp_ge_t (tgt := 21) C dX8_isTicket_14 (by decide) (by rcases hx with z | z; exact absurd z hc1; exact z) ?_
    refine r_iconst (q := 22) C (nI 0) dX8_isTicket_21 (by decide) rfl ?_
    exact r_zret C rfl rfl (by decide) (by decide) dX8_isTicket_22 ⟨rfl, wd_eq, fun t h => wd_ne h⟩

set_option maxHeartbeats 4000000 in
set_option maxRecDepth 20000 in
theorem m_isr_y {l : Launch} {g : cx_G} {w : wd_T} {m0 : Nat} {ad : Nat → Nat} {tC tk nu gC fl rS fS : Int32} {rN : Nat} (h0 : w 0 = some (m0, mo ad tC tk nu gC (nI rN) fl rS fS)) (hn : rN ≤ 300) {i : Nat} (hi : i < rN) : Mt l g yX8_isRow cX8_isRow 2 (some .boolean) 0 0 0 w [.ref m0, .int (nI i)] (fun v w' => v = some (.int (nI 1)) ∧ w' 0 = some (m0, mo ad tC tk nu gC (nI rN) (nI 0) rS fS) ∧ ∀ t, t ≠ 0 → w' t = w t) := by
  refine mt_of RX8 "isRow" rfl rfl (by decide) (Nat.le_of_ble_eq_true rfl) [(0, .ref m0), (1, .int (nI i))] rfl ?_
  intro k hkl C hin
  subst hkl
  refine r_aload_n (q := 1) C 0 dX8_isRow_0 rfl rfl ?_
  refine r_iconst (q := 2) C (nI 0) dX8_isRow_1 (by decide) rfl ?_
  refine r_put (q := 5) (t := 0) (w' := wd_set w 0 m0 (mo ad tC tk nu gC (nI rN) (nI 0) rS fS)) C koX8 h0 15 (by decide) q715 rfl rfl rfl rfl (Nat.le_of_ble_eq_true rfl) dX8_isRow_2 rfl rfl ?_
  refine r_iload_n (q := 6) C 1 dX8_isRow_5 rfl rfl ?_
  refine r_if_lt_f (q := 9) (tgt := 21) C dX8_isRow_6 (by decide) rfl (nI_pos (by omega)) ?_
  refine r_iload_n (q := 10) C 1 dX8_isRow_9 rfl rfl ?_
  refine r_aload_n (q := 11) C 0 dX8_isRow_10 rfl rfl ?_
  refine r_get (q := 14) (t := 0) C koX8 wd_eq 14 (by decide) q714 rfl rfl dX8_isRow_11 rfl ?_
  refine r_icmp_ge_f (q := 17) (tgt := 21) C dX8_isRow_14 (by decide) rfl (fun z => absurd ((nI_leI (a := rN) (b := i) (by omega) (by omega)).mp z) (by omega)) ?_
  refine r_iconst (q := 18) C (nI 1) dX8_isRow_17 (by decide) rfl ?_
  refine r_goto (tgt := 22) C dX8_isRow_18 (by decide) ?_
  exact r_zret C rfl rfl (by decide) (by decide) dX8_isRow_22 ⟨rfl, wd_eq, fun t h => wd_ne h⟩

set_option maxHeartbeats 4000000 in
set_option maxRecDepth 20000 in
theorem m_isr_n {l : Launch} {g : cx_G} {w : wd_T} {m0 : Nat} {ad : Nat → Nat} {tC tk nu gC fl rS fS : Int32} {rN : Nat} (h0 : w 0 = some (m0, mo ad tC tk nu gC (nI rN) fl rS fS)) (hn : rN ≤ 300) {x : Int32} (hx : x < 0 ∨ nI rN ≤ x) : Mt l g yX8_isRow cX8_isRow 2 (some .boolean) 0 0 0 w [.ref m0, .int x] (fun v w' => v = some (.int (nI 0)) ∧ w' 0 = some (m0, mo ad tC tk nu gC (nI rN) (nI 0) rS fS) ∧ ∀ t, t ≠ 0 → w' t = w t) := by
  refine mt_of RX8 "isRow" rfl rfl (by decide) (Nat.le_of_ble_eq_true rfl) [(0, .ref m0), (1, .int x)] rfl ?_
  intro k hkl C hin
  subst hkl
  refine r_aload_n (q := 1) C 0 dX8_isRow_0 rfl rfl ?_
  refine r_iconst (q := 2) C (nI 0) dX8_isRow_1 (by decide) rfl ?_
  refine r_put (q := 5) (t := 0) (w' := wd_set w 0 m0 (mo ad tC tk nu gC (nI rN) (nI 0) rS fS)) C koX8 h0 15 (by decide) q715 rfl rfl rfl rfl (Nat.le_of_ble_eq_true rfl) dX8_isRow_2 rfl rfl ?_
  refine r_iload_n (q := 6) C 1 dX8_isRow_5 rfl rfl ?_
  refine r_if_lt (q := 9) (tgt := 21) C dX8_isRow_6 (by decide) rfl (fun hc1 => ?_) (fun hc1 => ?_)
  · refine r_iconst (q := 22) C (nI 0) dX8_isRow_21 (by decide) rfl ?_
    exact r_zret C rfl rfl (by decide) (by decide) dX8_isRow_22 ⟨rfl, wd_eq, fun t h => wd_ne h⟩
  · refine r_iload_n (q := 10) C 1 dX8_isRow_9 rfl rfl ?_
    refine r_aload_n (q := 11) C 0 dX8_isRow_10 rfl rfl ?_
    refine r_get (q := 14) (t := 0) C koX8 wd_eq 14 (by decide) q714 rfl rfl dX8_isRow_11 rfl ?_
    refine r_icmp_ge_t (tgt := 21) C dX8_isRow_14 (by decide) (by rcases hx with z | z; exact absurd z hc1; exact z) ?_
    refine r_iconst (q := 22) C (nI 0) dX8_isRow_21 (by decide) rfl ?_
    exact r_zret C rfl rfl (by decide) (by decide) dX8_isRow_22 ⟨rfl, wd_eq, fun t h => wd_ne h⟩

set_option maxHeartbeats 4000000 in
set_option maxRecDepth 20000 in
theorem m_isv_y {l : Launch} {g : cx_G} {w : wd_T} {m0 : Nat} {ad : Nat → Nat} {tC tk nu rC gC fl rS fS : Int32} {fn : Nat → Nat} {i : Nat} (h0 : w 0 = some (m0, mo ad tC tk nu gC rC fl rS fS)) (h6 : w 6 = some (ad 6, aL g 1800 (fun p => lN (fn p)))) (hi : i < 200) (hb : fn (9 * i + 8) < 10000000000) (hv : ¬ fn (9 * i + 8) = 0) : Mt l g yX8_isVoid cX8_isVoid 2 (some .boolean) 0 0 0 w [.ref m0, .int (nI i)] (fun v w' => v = some (.int (nI 1)) ∧ w = w') := by
  refine mt_of RX8 "isVoid" rfl rfl (by decide) (Nat.le_of_ble_eq_true rfl) [(0, .ref m0), (1, .int (nI i))] rfl ?_
  intro k hkl C hin
  subst hkl
  refine r_aload_n (q := 1) C 0 dX8_isVoid_0 rfl rfl ?_
  refine r_get (q := 4) (t := 0) C koX8 h0 6 (by decide) q706 rfl rfl dX8_isVoid_1 rfl ?_
  refine r_bipush (q := 6) C (nI 9) dX8_isVoid_4 (by decide) rfl ?_
  refine r_iload_n (q := 7) C 1 dX8_isVoid_6 rfl rfl ?_
  refine r_imul (q := 8) C dX8_isVoid_7 rfl ?_
  refine r_ti (show ((nI 9) * (nI i) : Int32) = nI (9 * i) from pk_mul 9 i) ?_
  refine r_bipush (q := 10) C (nI 8) dX8_isVoid_8 (by decide) rfl ?_
  refine r_iadd (q := 11) C dX8_isVoid_10 rfl ?_
  refine r_ti (show ((nI (9 * i)) + (nI 8) : Int32) = nI (9 * i + 8) from nI_add (9 * i) 8) ?_
  refine r_lald (q := 12) (t := 6) C h6 (9 * i + 8) rfl (by omega) (by decide) dX8_isVoid_11 rfl ?_
  refine r_tl (show ((fun p => lN (fn p)) (9 * i + 8) : Int64) = lN (fn (9 * i + 8)) from rfl) ?_
  refine r_lconst (q := 13) C (lN 0) dX8_isVoid_12 (by decide) rfl ?_
  refine r_lcmp_eq (q := 14) (q2 := 17) (tgt := 21) C dX8_isVoid_13 rfl dX8_isVoid_14 (by decide) rfl (fun hz1 => absurd (fun z => absurd ((pk_lEQ (a := (fn (9 * i + 8))) (b := 0) (by omega) (by omega)).mp z) (by omega)) (by first | exact hz1 | exact fun zz => zz hz1)) (fun _ => ?_)
  refine r_iconst (q := 18) C (nI 1) dX8_isVoid_17 (by decide) rfl ?_
  refine r_goto (tgt := 22) C dX8_isVoid_18 (by decide) ?_
  exact r_zret C rfl rfl (by decide) (by decide) dX8_isVoid_22 ⟨rfl, rfl⟩

set_option maxHeartbeats 4000000 in
set_option maxRecDepth 20000 in
theorem m_isv_n {l : Launch} {g : cx_G} {w : wd_T} {m0 : Nat} {ad : Nat → Nat} {tC tk nu rC gC fl rS fS : Int32} {fn : Nat → Nat} {i : Nat} (h0 : w 0 = some (m0, mo ad tC tk nu gC rC fl rS fS)) (h6 : w 6 = some (ad 6, aL g 1800 (fun p => lN (fn p)))) (hi : i < 200) (hb : fn (9 * i + 8) < 10000000000) (hv : fn (9 * i + 8) = 0) : Mt l g yX8_isVoid cX8_isVoid 2 (some .boolean) 0 0 0 w [.ref m0, .int (nI i)] (fun v w' => v = some (.int (nI 0)) ∧ w = w') := by
  refine mt_of RX8 "isVoid" rfl rfl (by decide) (Nat.le_of_ble_eq_true rfl) [(0, .ref m0), (1, .int (nI i))] rfl ?_
  intro k hkl C hin
  subst hkl
  refine r_aload_n (q := 1) C 0 dX8_isVoid_0 rfl rfl ?_
  refine r_get (q := 4) (t := 0) C koX8 h0 6 (by decide) q706 rfl rfl dX8_isVoid_1 rfl ?_
  refine r_bipush (q := 6) C (nI 9) dX8_isVoid_4 (by decide) rfl ?_
  refine r_iload_n (q := 7) C 1 dX8_isVoid_6 rfl rfl ?_
  refine r_imul (q := 8) C dX8_isVoid_7 rfl ?_
  refine r_ti (show ((nI 9) * (nI i) : Int32) = nI (9 * i) from pk_mul 9 i) ?_
  refine r_bipush (q := 10) C (nI 8) dX8_isVoid_8 (by decide) rfl ?_
  refine r_iadd (q := 11) C dX8_isVoid_10 rfl ?_
  refine r_ti (show ((nI (9 * i)) + (nI 8) : Int32) = nI (9 * i + 8) from nI_add (9 * i) 8) ?_
  refine r_lald (q := 12) (t := 6) C h6 (9 * i + 8) rfl (by omega) (by decide) dX8_isVoid_11 rfl ?_
  refine r_tl (show ((fun p => lN (fn p)) (9 * i + 8) : Int64) = lN (fn (9 * i + 8)) from rfl) ?_
  refine r_lconst (q := 13) C (lN 0) dX8_isVoid_12 (by decide) rfl ?_
  refine r_lcmp_eq (q := 14) (q2 := 17) (tgt := 21) C dX8_isVoid_13 rfl dX8_isVoid_14 (by decide) rfl (fun _ => ?_) (fun hz1 => absurd ((pk_lEQ (a := (fn (9 * i + 8))) (b := 0) (by omega) (by omega)).mpr (by omega)) (by first | exact hz1 | exact fun zz => zz hz1))
  refine r_iconst (q := 22) C (nI 0) dX8_isVoid_21 (by decide) rfl ?_
  exact r_zret C rfl rfl (by decide) (by decide) dX8_isVoid_22 ⟨rfl, rfl⟩
