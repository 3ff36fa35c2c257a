/-! the reference: follows -/
theorem i_of {y : Int32} {n : Nat} (hn : n < 2 ^ 31) (e : y.toInt64 = lN n) : y = nI n := (fa_wide_eq y (nI n)).mp (by rw [e, nI_l hn])
theorem m_in_ok {l : Launch} {g : cx_G} {w : wd_T} {v : Int64} {b : Nat} (h : ∃ n, n ≤ b ∧ v = lN n) (hb : b ≤ 8000000000) : Mt l g yX8_isIn cX8_isIn 4 (some .boolean) 0 0 0 w [.long v, .long (lN b)] (fun v9 w' => v9 = some (.int (nI 1)) ∧ w = w') := by
  obtain ⟨n, hn, rfl⟩ := h
  exact m_in_y hn hb
/-- a tare told of that very day is the one that is found -/
theorem lu9_hit {tD tV : Nat → Int32} {dy vh : Int32} : ∀ n j, j < n → tV j = vh → tD j = dy → ∃ k9, lu9 tD tV dy vh n = some k9 ∧ tD k9 = dy
  | 0, j, hj, _, _ => absurd hj (Nat.not_lt_zero j)
  | n + 1, j, hj, hv, hd => by
    rw [lu9]
    by_cases z : j = n
    · subst z
      cases e : lu9 tD tV dy vh j with
      | none => exact ⟨j, if_pos ⟨hv, Int32.le_of_eq hd, rfl⟩, hd⟩
      | some k9 =>
        have hk := lu9_lt j k9 e
        by_cases y : tD k9 < tD j
        · exact ⟨j, if_pos ⟨hv, Int32.le_of_eq hd, decide_eq_true y⟩, hd⟩
        · exact ⟨k9, if_neg (fun z => absurd (of_decide_eq_true z.2.2) y), Int32.le_antisymm hk.2.2 (by rw [← hd]; exact Int32.not_lt.mp y)⟩
    · obtain ⟨k9, e, h9⟩ := lu9_hit n j (by omega) hv hd
      refine ⟨k9, ?_, h9⟩
      rw [e]
      exact if_neg (fun z => absurd (of_decide_eq_true z.2.2) (by rw [h9]; exact Int32.not_lt.mpr z.2.1))
theorem ok_i {f b : Nat} {v : Int64} (hf : cb9 f) (hb : b ≤ mx9 f) (h : ∃ n, n ≤ b ∧ v = lN n) : ok9 (nI f) v := by
  obtain ⟨n, hn, e⟩ := h
  exact ⟨f, n, rfl, hf, by omega, e⟩
set_option maxHeartbeats 4000000 in
set_option maxRecDepth 20000 in
theorem y_fol_n {l : Launch} {g : cx_G} {w : wd_T} {c m0 tk gN rN tN : Nat} {fl : Int32} {fn wn : Nat → Nat} {gp by9 rD tD tV tT : Nat → Int32} (hM : MdAt g w m0 fl tk gN rN tN fn wn gp by9 rD tD tV tT) (hI : Iv9 c tk gN rN tN fn wn by9 tD tV tT) {dy vh : Int32} {ta : Int64} (hb : ¬ ((¬ dy < 0) ∧ (¬ nI 100000 < dy) ∧ ok9 (nI 1) vh.toInt64 ∧ ok9 (nI 4) ta)) : Mt l g yX8_follows cX8_follows 6 (some .boolean) 1 0 0 w [.ref m0, .int dy, .int vh, .long ta] (fun v w' => v = some (.int (nI 0)) ∧ MdAt g w' m0 (nI 0) tk gN rN tN fn wn gp by9 rD tD tV tT ∧ Fm w w') := by
  refine mt_of RX8 "follows" rfl rfl (by decide) (Nat.le_of_ble_eq_true rfl) [(0, .ref m0), (1, .int dy), (2, .int vh), (3, .long ta)] rfl ?_
  intro k hkl C hin
  subst hkl
  obtain ⟨ad, rS, fS, lv, fo, h0, hks, h3, h4, h5, h6, h7, h8, h9, h10, hsc, h16, h17⟩ := id hM
  obtain ⟨i0, i1, i2, i3, i4, i5, i6, i7, i8, i9, i10⟩ := id hI
  refine r_aload_n (q := 1) C 0 dX8_follows_0 rfl rfl ?_
  refine r_iconst (q := 2) C (nI 0) dX8_follows_1 (by decide) rfl ?_
  refine r_put (q := 5) (t := 0) (w' := wd_set w 0 m0 (mo ad (nI tN) (nI tk) (nI (tk + gN)) (nI gN) (nI rN) (nI 0) rS fS)) C koX8 h0 15 (by decide) q715 rfl rfl rfl rfl (Nat.le_of_ble_eq_true rfl) dX8_follows_2 rfl rfl ?_
  refine r_iload_n (q := 6) C 1 dX8_follows_5 rfl rfl ?_
  refine r_i2l (q := 7) C dX8_follows_6 rfl ?_
  refine r_ldc2 (q := 10) (v := lN 100000) C dX8_follows_7 q784 rfl ?_
  by_cases uu0 : ∃ n, n ≤ 100000 ∧ dy.toInt64 = lN n
  · refine r_callS (q := 13) (As := [.long dy.toInt64, .long (lN 100000)]) (st := []) C (m_in_ok uu0 (by decide)) q787 q785 q786 q9 ⟨by decide, by decide⟩ (show (parseMethodDescriptor yX8_isIn.desc).map (fun d => d.parameters.length) = some 2 by decide +kernel) (by decide) (by decide) (by decide) (by decide) (Nat.le_of_ble_eq_true rfl) rfl dX8_follows_10 rfl ?_
    rintro v9 w1 ⟨rfl, rfl⟩
    show V g k 6 (wd_set w 0 m0 (mo ad (nI tN) (nI tk) (nI (tk + gN)) (nI gN) (nI rN) (nI 0) rS fS)) 0 0 (kQ g k (fun v w' => v = some (.int (nI 0)) ∧ MdAt g w' m0 (nI 0) tk gN rN tN fn wn gp by9 rD tD tV tT ∧ Fm w w') 0 0) 13 [(0, .ref m0), (1, .int dy), (2, .int vh), (3, .long ta)] [.int (nI 1)]
    refine r_if_eq_f (q := 16) (tgt := 37) C dX8_follows_13 (by decide) rfl (by decide) ?_
    refine r_iload_n (q := 17) C 2 dX8_follows_16 rfl rfl ?_
    refine r_i2l (q := 18) C dX8_follows_17 rfl ?_
    refine r_ldc2 (q := 21) (v := lN 99) C dX8_follows_18 q788 rfl ?_
    by_cases uu1 : ∃ n, n ≤ 99 ∧ vh.toInt64 = lN n
    · refine r_callS (q := 24) (As := [.long vh.toInt64, .long (lN 99)]) (st := []) C (m_in_ok uu1 (by decide)) q787 q785 q786 q9 ⟨by decide, by decide⟩ (show (parseMethodDescriptor yX8_isIn.desc).map (fun d => d.parameters.length) = some 2 by decide +kernel) (by decide) (by decide) (by decide) (by decide) (Nat.le_of_ble_eq_true rfl) rfl dX8_follows_21 rfl ?_
      rintro v9 w2 ⟨rfl, rfl⟩
      show V g k 6 (wd_set w 0 m0 (mo ad (nI tN) (nI tk) (nI (tk + gN)) (nI gN) (nI rN) (nI 0) rS fS)) 0 0 (kQ g k (fun v w' => v = some (.int (nI 0)) ∧ MdAt g w' m0 (nI 0) tk gN rN tN fn wn gp by9 rD tD tV tT ∧ Fm w w') 0 0) 24 [(0, .ref m0), (1, .int dy), (2, .int vh), (3, .long ta)] [.int (nI 1)]
      refine r_if_eq_f (q := 27) (tgt := 37) C dX8_follows_24 (by decide) rfl (by decide) ?_
      refine r_lload_n (q := 28) C 3 dX8_follows_27 rfl rfl ?_
      refine r_ldc2 (q := 31) (v := lN 1000000000) C dX8_follows_28 q789 rfl ?_
      by_cases uu2 : ∃ n, n ≤ 1000000000 ∧ ta = lN n
      · obtain ⟨n, hn, e⟩ := uu0
        obtain rfl := i_of (by omega) e
        exact absurd ⟨nI_pos (by omega), fun z => absurd ((nI_ltI (a := 100000) (b := n) (by omega) (by omega)).mp z) (by omega), ok_i (Or.inl rfl) (by decide) uu1, ok_i (by unfold cb9; omega) (by decide) uu2⟩ hb
      · refine r_callS (q := 34) (As := [.long ta, .long (lN 1000000000)]) (st := []) C (m_in_n uu2 (by decide)) q787 q785 q786 q9 ⟨by decide, by decide⟩ (show (parseMethodDescriptor yX8_isIn.desc).map (fun d => d.parameters.length) = some 2 by decide +kernel) (by decide) (by decide) (by decide) (by decide) (Nat.le_of_ble_eq_true rfl) rfl dX8_follows_31 rfl ?_
        rintro v9 w3 ⟨rfl, rfl⟩
        show V g k 6 (wd_set w 0 m0 (mo ad (nI tN) (nI tk) (nI (tk + gN)) (nI gN) (nI rN) (nI 0) rS fS)) 0 0 (kQ g k (fun v w' => v = some (.int (nI 0)) ∧ MdAt g w' m0 (nI 0) tk gN rN tN fn wn gp by9 rD tD tV tT ∧ Fm w w') 0 0) 34 [(0, .ref m0), (1, .int dy), (2, .int vh), (3, .long ta)] [.int (nI 0)]
        refine r_if_ne_f (q := 37) (tgt := 39) C dX8_follows_34 (by decide) rfl (by decide) ?_
        refine r_iconst (q := 38) C (nI 0) dX8_follows_37 (by decide) rfl ?_
        exact r_zret C rfl rfl (by decide) (by decide) dX8_follows_38 ⟨rfl, ⟨ad, _, _, _, _, wd_eq, hks.kept (fun t _ _ => (by simp only [wd_set]; rw [if_neg (by omega)])), ((wd_ne (by decide)).trans h3), ((wd_ne (by decide)).trans h4), ((wd_ne (by decide)).trans h5), ((wd_ne (by decide)).trans h6), ((wd_ne (by decide)).trans h7), ((wd_ne (by decide)).trans h8), ((wd_ne (by decide)).trans h9), ((wd_ne (by decide)).trans h10), hsc.kept (fun t _ _ => (by simp only [wd_set]; rw [if_neg (by omega)])), ((wd_ne (by decide)).trans h16), ((wd_ne (by decide)).trans h17)⟩, fun t ht => (by simp only [wd_set]; rw [if_neg (by omega)])⟩
    · refine r_callS (q := 24) (As := [.long vh.toInt64, .long (lN 99)]) (st := []) C (m_in_n uu1 (by decide)) q787 q785 q786 q9 ⟨by decide, by decide⟩ (show (parseMethodDescriptor yX8_isIn.desc).map (fun d => d.parameters.length) = some 2 by decide +kernel) (by decide) (by decide) (by decide) (by decide) (Nat.le_of_ble_eq_true rfl) rfl dX8_follows_21 rfl ?_
      rintro v9 w4 ⟨rfl, rfl⟩
      show V g k 6 (wd_set w 0 m0 (mo ad (nI tN) (nI tk) (nI (tk + gN)) (nI gN) (nI rN) (nI 0) rS fS)) 0 0 (kQ g k (fun v w' => v = some (.int (nI 0)) ∧ MdAt g w' m0 (nI 0) tk gN rN tN fn wn gp by9 rD tD tV tT ∧ Fm w w') 0 0) 24 [(0, .ref m0), (1, .int dy), (2, .int vh), (3, .long ta)] [.int (nI 0)]
      refine r_if_eq_t (tgt := 37) C dX8_follows_24 (by decide) (by decide) ?_
      refine r_iconst (q := 38) C (nI 0) dX8_follows_37 (by decide) rfl ?_
      exact r_zret C rfl rfl (by decide) (by decide) dX8_follows_38 ⟨rfl, ⟨ad, _, _, _, _, wd_eq, hks.kept (fun t _ _ => (by simp only [wd_set]; rw [if_neg (by omega)])), ((wd_ne (by decide)).trans h3), ((wd_ne (by decide)).trans h4), ((wd_ne (by decide)).trans h5), ((wd_ne (by decide)).trans h6), ((wd_ne (by decide)).trans h7), ((wd_ne (by decide)).trans h8), ((wd_ne (by decide)).trans h9), ((wd_ne (by decide)).trans h10), hsc.kept (fun t _ _ => (by simp only [wd_set]; rw [if_neg (by omega)])), ((wd_ne (by decide)).trans h16), ((wd_ne (by decide)).trans h17)⟩, fun t ht => (by simp only [wd_set]; rw [if_neg (by omega)])⟩
  · refine r_callS (q := 13) (As := [.long dy.toInt64, .long (lN 100000)]) (st := []) C (m_in_n uu0 (by decide)) q787 q785 q786 q9 ⟨by decide, by decide⟩ (show (parseMethodDescriptor yX8_isIn.desc).map (fun d => d.parameters.length) = some 2 by decide +kernel) (by decide) (by decide) (by decide) (by decide) (Nat.le_of_ble_eq_true rfl) rfl dX8_follows_10 rfl ?_
    rintro v9 w5 ⟨rfl, rfl⟩
    show V g k 6 (wd_set w 0 m0 (mo ad (nI tN) (nI tk) (nI (tk + gN)) (nI gN) (nI rN) (nI 0) rS fS)) 0 0 (kQ g k (fun v w' => v = some (.int (nI 0)) ∧ MdAt g w' m0 (nI 0) tk gN rN tN fn wn gp by9 rD tD tV tT ∧ Fm w w') 0 0) 13 [(0, .ref m0), (1, .int dy), (2, .int vh), (3, .long ta)] [.int (nI 0)]
    refine r_if_eq_t (tgt := 37) C dX8_follows_13 (by decide) (by decide) ?_
    refine r_iconst (q := 38) C (nI 0) dX8_follows_37 (by decide) rfl ?_
    exact r_zret C rfl rfl (by decide) (by decide) dX8_follows_38 ⟨rfl, ⟨ad, _, _, _, _, wd_eq, hks.kept (fun t _ _ => (by simp only [wd_set]; rw [if_neg (by omega)])), ((wd_ne (by decide)).trans h3), ((wd_ne (by decide)).trans h4), ((wd_ne (by decide)).trans h5), ((wd_ne (by decide)).trans h6), ((wd_ne (by decide)).trans h7), ((wd_ne (by decide)).trans h8), ((wd_ne (by decide)).trans h9), ((wd_ne (by decide)).trans h10), hsc.kept (fun t _ _ => (by simp only [wd_set]; rw [if_neg (by omega)])), ((wd_ne (by decide)).trans h16), ((wd_ne (by decide)).trans h17)⟩, fun t ht => (by simp only [wd_set]; rw [if_neg (by omega)])⟩

set_option maxHeartbeats 4000000 in
set_option maxRecDepth 20000 in
theorem y_fol_y {l : Launch} {g : cx_G} {w : wd_T} {c m0 tk gN rN tN : Nat} {fl : Int32} {fn wn : Nat → Nat} {gp by9 rD tD tV tT : Nat → Int32} (hM : MdAt g w m0 fl tk gN rN tN fn wn gp by9 rD tD tV tT) (hI : Iv9 c tk gN rN tN fn wn by9 tD tV tT) {d9 vh ta : Nat} (hd : d9 ≤ 100000) (hv : vh ≤ 99) (ht : ta ≤ 1000000000) {k9 : Nat} (h9u : lu9 tD tV (nI d9) (nI vh) tN = some k9) (hd9 : tD k9 = nI d9) : Mt l g yX8_follows cX8_follows 6 (some .boolean) 1 0 0 w [.ref m0, .int (nI d9), .int (nI vh), .long (lN ta)] (fun v w' => v = some (.int (nI 1)) ∧ MdAt g w' m0 (nI 0) tk gN rN tN fn wn gp by9 rD tD tV (upd tT k9 (nI ta)) ∧ Fm w w') := by
  refine mt_of RX8 "follows" rfl rfl (by decide) (Nat.le_of_ble_eq_true rfl) [(0, .ref m0), (1, .int (nI d9)), (2, .int (nI vh)), (3, .long (lN ta))] rfl ?_
  intro k hkl C hin
  subst hkl
  obtain ⟨ad, rS, fS, lv, fo, h0, hks, h3, h4, h5, h6, h7, h8, h9, h10, hsc, h16, h17⟩ := id hM
  obtain ⟨i0, i1, i2, i3, i4, i5, i6, i7, i8, i9, i10⟩ := id hI
  have hk := lu9_lt tN k9 h9u
  refine r_aload_n (q := 1) C 0 dX8_follows_0 rfl rfl ?_
  refine r_iconst (q := 2) C (nI 0) dX8_follows_1 (by decide) rfl ?_
  refine r_put (q := 5) (t := 0) (w' := wd_set w 0 m0 (mo ad (nI tN) (nI tk) (nI (tk + gN)) (nI gN) (nI rN) (nI 0) rS fS)) C koX8 h0 15 (by decide) q715 rfl rfl rfl rfl (Nat.le_of_ble_eq_true rfl) dX8_follows_2 rfl rfl ?_
  refine r_iload_n (q := 6) C 1 dX8_follows_5 rfl rfl ?_
  refine r_i2l (q := 7) C dX8_follows_6 rfl ?_
  refine r_tl (show ((nI d9).toInt64 : Int64) = lN d9 from nI_l (by omega)) ?_
  refine r_ldc2 (q := 10) (v := lN 100000) C dX8_follows_7 q784 rfl ?_
  refine r_callS (q := 13) (As := [.long (lN d9), .long (lN 100000)]) (st := []) C (m_in_y (n := d9) (b := 100000) hd (by decide)) q787 q785 q786 q9 ⟨by decide, by decide⟩ (show (parseMethodDescriptor yX8_isIn.desc).map (fun d => d.parameters.length) = some 2 by decide +kernel) (by decide) (by decide) (by decide) (by decide) (Nat.le_of_ble_eq_true rfl) rfl dX8_follows_10 rfl ?_
  rintro v9 w1 ⟨rfl, rfl⟩
  show V g k 6 (wd_set w 0 m0 (mo ad (nI tN) (nI tk) (nI (tk + gN)) (nI gN) (nI rN) (nI 0) rS fS)) 0 0 (kQ g k (fun v w' => v = some (.int (nI 1)) ∧ MdAt g w' m0 (nI 0) tk gN rN tN fn wn gp by9 rD tD tV (upd tT k9 (nI ta)) ∧ Fm w w') 0 0) 13 [(0, .ref m0), (1, .int (nI d9)), (2, .int (nI vh)), (3, .long (lN ta))] [.int (nI 1)]
  refine r_if_eq_f (q := 16) (tgt := 37) C dX8_follows_13 (by decide) rfl (by decide) ?_
  refine r_iload_n (q := 17) C 2 dX8_follows_16 rfl rfl ?_
  refine r_i2l (q := 18) C dX8_follows_17 rfl ?_
  refine r_tl (show ((nI vh).toInt64 : Int64) = lN vh from nI_l (by omega)) ?_
  refine r_ldc2 (q := 21) (v := lN 99) C dX8_follows_18 q788 rfl ?_
  refine r_callS (q := 24) (As := [.long (lN vh), .long (lN 99)]) (st := []) C (m_in_y (n := vh) (b := 99) hv (by decide)) q787 q785 q786 q9 ⟨by decide, by decide⟩ (show (parseMethodDescriptor yX8_isIn.desc).map (fun d => d.parameters.length) = some 2 by decide +kernel) (by decide) (by decide) (by decide) (by decide) (Nat.le_of_ble_eq_true rfl) rfl dX8_follows_21 rfl ?_
  rintro v9 w2 ⟨rfl, rfl⟩
  show V g k 6 (wd_set w 0 m0 (mo ad (nI tN) (nI tk) (nI (tk + gN)) (nI gN) (nI rN) (nI 0) rS fS)) 0 0 (kQ g k (fun v w' => v = some (.int (nI 1)) ∧ MdAt g w' m0 (nI 0) tk gN rN tN fn wn gp by9 rD tD tV (upd tT k9 (nI ta)) ∧ Fm w w') 0 0) 24 [(0, .ref m0), (1, .int (nI d9)), (2, .int (nI vh)), (3, .long (lN ta))] [.int (nI 1)]
  refine r_if_eq_f (q := 27) (tgt := 37) C dX8_follows_24 (by decide) rfl (by decide) ?_
  refine r_lload_n (q := 28) C 3 dX8_follows_27 rfl rfl ?_
  refine r_ldc2 (q := 31) (v := lN 1000000000) C dX8_follows_28 q789 rfl ?_
  refine r_callS (q := 34) (As := [.long (lN ta), .long (lN 1000000000)]) (st := []) C (m_in_y (n := ta) (b := 1000000000) ht (by decide)) q787 q785 q786 q9 ⟨by decide, by decide⟩ (show (parseMethodDescriptor yX8_isIn.desc).map (fun d => d.parameters.length) = some 2 by decide +kernel) (by decide) (by decide) (by decide) (by decide) (Nat.le_of_ble_eq_true rfl) rfl dX8_follows_31 rfl ?_
  rintro v9 w3 ⟨rfl, rfl⟩
  show V g k 6 (wd_set w 0 m0 (mo ad (nI tN) (nI tk) (nI (tk + gN)) (nI gN) (nI rN) (nI 0) rS fS)) 0 0 (kQ g k (fun v w' => v = some (.int (nI 1)) ∧ MdAt g w' m0 (nI 0) tk gN rN tN fn wn gp by9 rD tD tV (upd tT k9 (nI ta)) ∧ Fm w w') 0 0) 34 [(0, .ref m0), (1, .int (nI d9)), (2, .int (nI vh)), (3, .long (lN ta))] [.int (nI 1)]
  refine r_if_ne_t (tgt := 39) C dX8_follows_34 (by decide) (by decide) ?_
  refine r_iconst (q := 40) C (nI 0) dX8_follows_39 (by decide) rfl ?_
  refine r_istore (q := 42) (lv' := [(5, .int (nI 0)), (0, .ref m0), (1, .int (nI d9)), (2, .int (nI vh)), (3, .long (lN ta))]) C dX8_follows_40 (by decide) rfl rfl ?_
  refine r_sub (lv' := [(5, .int (nI 0)), (0, .ref m0), (1, .int (nI d9)), (2, .int (nI vh)), (3, .long (lN ta))]) [0, 1, 2, 3, 4] rfl ?_
  have loop : ∀ (r i : Nat)  , i + r = k9 → V g k 6 (wd_set w 0 m0 (mo ad (nI tN) (nI tk) (nI (tk + gN)) (nI gN) (nI rN) (nI 0) rS fS)) 0 0 (kQ g k (fun v w' => v = some (.int (nI 1)) ∧ MdAt g w' m0 (nI 0) tk gN rN tN fn wn gp by9 rD tD tV (upd tT k9 (nI ta)) ∧ Fm w w') 0 0) 42 [(5, .int (nI i)), (0, .ref m0), (1, .int (nI d9)), (2, .int (nI vh)), (3, .long (lN ta))] [] := by
    intro r
    induction r with
    | zero =>
      intro i   hi 
      obtain rfl : k9 = i := by omega
      refine r_iload (q := 44) C 0 dX8_follows_42 rfl rfl ?_
      refine r_aload_n (q := 45) C 1 dX8_follows_44 rfl rfl ?_
      refine r_get (q := 48) (t := 0) C koX8 wd_eq 5 (by decide) q705 rfl rfl dX8_follows_45 rfl ?_
      refine r_icmp_ge_f (q := 51) (tgt := 79) C dX8_follows_48 (by decide) rfl (fun z => absurd ((nI_leI (a := tN) (b := k9) (by omega) (by omega)).mp z) (by omega)) ?_
      refine r_aload_n (q := 52) C 1 dX8_follows_51 rfl rfl ?_
      refine r_get (q := 55) (t := 0) C koX8 wd_eq 2 (by decide) q702 rfl rfl dX8_follows_52 rfl ?_
      refine r_iload (q := 57) C 0 dX8_follows_55 rfl rfl ?_
      refine r_iald (q := 58) (t := 3) C ((wd_ne (by decide)).trans h3) k9 rfl (by omega) (by decide) dX8_follows_57 rfl ?_
      refine r_iload_n (q := 59) C 2 dX8_follows_58 rfl rfl ?_
      refine r_icmp_ne_f (q := 62) (tgt := 73) C dX8_follows_59 (by decide) rfl (hd9) ?_
      refine r_aload_n (q := 63) C 1 dX8_follows_62 rfl rfl ?_
      refine r_get (q := 66) (t := 0) C koX8 wd_eq 3 (by decide) q703 rfl rfl dX8_follows_63 rfl ?_
      refine r_iload (q := 68) C 0 dX8_follows_66 rfl rfl ?_
      refine r_iald (q := 69) (t := 4) C ((wd_ne (by decide)).trans h4) k9 rfl (by omega) (by decide) dX8_follows_68 rfl ?_
      refine r_iload_n (q := 70) C 3 dX8_follows_69 rfl rfl ?_
      refine r_icmp_eq_t (tgt := 79) C dX8_follows_70 (by decide) (hk.2.1) ?_
      refine r_aload_n (q := 80) C 1 dX8_follows_79 rfl rfl ?_
      refine r_get (q := 83) (t := 0) C koX8 wd_eq 2 (by decide) q702 rfl rfl dX8_follows_80 rfl ?_
      refine r_iload (q := 85) C 0 dX8_follows_83 rfl rfl ?_
      refine r_iload_n (q := 86) C 2 dX8_follows_85 rfl rfl ?_
      refine r_iast (q := 87) (t := 3) (w' := wd_set (wd_set w 0 m0 (mo ad (nI tN) (nI tk) (nI (tk + gN)) (nI gN) (nI rN) (nI 0) rS fS)) 3 (ad 3) (aI g 1100 (upd tD k9 (nI d9)))) C ((wd_ne (by decide)).trans h3) k9 rfl (by omega) (by decide) dX8_follows_86 rfl rfl ?_
      refine r_aload_n (q := 88) C 1 dX8_follows_87 rfl rfl ?_
      refine r_get (q := 91) (t := 0) C koX8 ((wd_ne (by decide)).trans wd_eq) 3 (by decide) q703 rfl rfl dX8_follows_88 rfl ?_
      refine r_iload (q := 93) C 0 dX8_follows_91 rfl rfl ?_
      refine r_iload_n (q := 94) C 3 dX8_follows_93 rfl rfl ?_
      refine r_iast (q := 95) (t := 4) (w' := wd_set (wd_set (wd_set w 0 m0 (mo ad (nI tN) (nI tk) (nI (tk + gN)) (nI gN) (nI rN) (nI 0) rS fS)) 3 (ad 3) (aI g 1100 (upd tD k9 (nI d9)))) 4 (ad 4) (aI g 1100 (upd tV k9 (nI vh)))) C ((wd_ne (by decide)).trans ((wd_ne (by decide)).trans h4)) k9 rfl (by omega) (by decide) dX8_follows_94 rfl rfl ?_
      refine r_aload_n (q := 96) C 1 dX8_follows_95 rfl rfl ?_
      refine r_get (q := 99) (t := 0) C koX8 ((wd_ne (by decide)).trans ((wd_ne (by decide)).trans wd_eq)) 4 (by decide) q704 rfl rfl dX8_follows_96 rfl ?_
      refine r_iload (q := 101) C 0 dX8_follows_99 rfl rfl ?_
      refine r_lload_n (q := 102) C 4 dX8_follows_101 rfl rfl ?_
      refine r_l2i (q := 103) C dX8_follows_102 rfl ?_
      refine r_ti (show ((lN ta).toInt32 : Int32) = nI ta from lN_i ta) ?_
      refine r_iast (q := 104) (t := 5) (w' := wd_set (wd_set (wd_set (wd_set w 0 m0 (mo ad (nI tN) (nI tk) (nI (tk + gN)) (nI gN) (nI rN) (nI 0) rS fS)) 3 (ad 3) (aI g 1100 (upd tD k9 (nI d9)))) 4 (ad 4) (aI g 1100 (upd tV k9 (nI vh)))) 5 (ad 5) (aI g 1100 (upd tT k9 (nI ta)))) C ((wd_ne (by decide)).trans ((wd_ne (by decide)).trans ((wd_ne (by decide)).trans h5))) k9 rfl (by omega) (by decide) dX8_follows_103 rfl rfl ?_
      refine r_aload_n (q := 105) C 1 dX8_follows_104 rfl rfl ?_
      refine r_iload (q := 107) C 0 dX8_follows_105 rfl rfl ?_
      refine r_aload_n (q := 108) C 1 dX8_follows_107 rfl rfl ?_
      refine r_get (q := 111) (t := 0) C koX8 ((wd_ne (by decide)).trans ((wd_ne (by decide)).trans ((wd_ne (by decide)).trans wd_eq))) 5 (by decide) q705 rfl rfl dX8_follows_108 rfl ?_
      refine r_icmp_ne_t (tgt := 123) C dX8_follows_111 (by decide) (fun z => absurd ((nI_eq (a := k9) (b := tN) (by omega) (by omega)).mp z) (by omega)) ?_
      refine r_aload_n (q := 124) C 1 dX8_follows_123 rfl rfl ?_
      refine r_get (q := 127) (t := 0) C koX8 ((wd_ne (by decide)).trans ((wd_ne (by decide)).trans ((wd_ne (by decide)).trans wd_eq))) 5 (by decide) q705 rfl rfl dX8_follows_124 rfl ?_
      refine r_put (q := 130) (t := 0) (w' := wd_set (wd_set (wd_set (wd_set w 3 (ad 3) (aI g 1100 (upd tD k9 (nI d9)))) 4 (ad 4) (aI g 1100 (upd tV k9 (nI vh)))) 5 (ad 5) (aI g 1100 (upd tT k9 (nI ta)))) 0 m0 (mo ad (nI tN) (nI tk) (nI (tk + gN)) (nI gN) (nI rN) (nI 0) rS fS)) C koX8 ((wd_ne (by decide)).trans ((wd_ne (by decide)).trans ((wd_ne (by decide)).trans wd_eq))) 5 (by decide) q705 rfl rfl rfl rfl (Nat.le_of_ble_eq_true rfl) dX8_follows_127 rfl (wd_pp (wd_pp (wd_pp wd_ss (by decide)) (by decide)) (by decide)) ?_
      refine r_iconst (q := 131) C (nI 1) dX8_follows_130 (by decide) rfl ?_
      exact r_zret C rfl rfl (by decide) (by decide) dX8_follows_131 ⟨rfl, ⟨ad, _, _, _, _, wd_eq, hks.kept (fun t _ _ => (by simp only [wd_set]; rw [if_neg (by omega), if_neg (by omega), if_neg (by omega), if_neg (by omega)])), (by rw [show some (ad 3, aI g 1100 tD) = some (ad 3, aI g 1100 (upd tD k9 (nI d9))) by rw [fa_upd_same hd9]]; exact ((wd_ne (by decide)).trans ((wd_ne (by decide)).trans ((wd_ne (by decide)).trans wd_eq)))), (by rw [show some (ad 4, aI g 1100 tV) = some (ad 4, aI g 1100 (upd tV k9 (nI vh))) by rw [fa_upd_same hk.2.1]]; exact ((wd_ne (by decide)).trans ((wd_ne (by decide)).trans wd_eq))), ((wd_ne (by decide)).trans wd_eq), ((wd_ne (by decide)).trans ((wd_ne (by decide)).trans ((wd_ne (by decide)).trans ((wd_ne (by decide)).trans h6)))), ((wd_ne (by decide)).trans ((wd_ne (by decide)).trans ((wd_ne (by decide)).trans ((wd_ne (by decide)).trans h7)))), ((wd_ne (by decide)).trans ((wd_ne (by decide)).trans ((wd_ne (by decide)).trans ((wd_ne (by decide)).trans h8)))), ((wd_ne (by decide)).trans ((wd_ne (by decide)).trans ((wd_ne (by decide)).trans ((wd_ne (by decide)).trans h9)))), ((wd_ne (by decide)).trans ((wd_ne (by decide)).trans ((wd_ne (by decide)).trans ((wd_ne (by decide)).trans h10)))), hsc.kept (fun t _ _ => (by simp only [wd_set]; rw [if_neg (by omega), if_neg (by omega), if_neg (by omega), if_neg (by omega)])), ((wd_ne (by decide)).trans ((wd_ne (by decide)).trans ((wd_ne (by decide)).trans ((wd_ne (by decide)).trans h16)))), ((wd_ne (by decide)).trans ((wd_ne (by decide)).trans ((wd_ne (by decide)).trans ((wd_ne (by decide)).trans h17))))⟩, fun t ht => (by simp only [wd_set]; rw [if_neg (by omega), if_neg (by omega), if_neg (by omega), if_neg (by omega)])⟩
    | succ r ih =>
      intro i   hi 
      refine r_iload (q := 44) C 0 dX8_follows_42 rfl rfl ?_
      refine r_aload_n (q := 45) C 1 dX8_follows_44 rfl rfl ?_
      refine r_get (q := 48) (t := 0) C koX8 wd_eq 5 (by decide) q705 rfl rfl dX8_follows_45 rfl ?_
      refine r_icmp_ge_f (q := 51) (tgt := 79) C dX8_follows_48 (by decide) rfl (fun z => absurd ((nI_leI (a := tN) (b := i) (by omega) (by omega)).mp z) (by omega)) ?_
      refine r_aload_n (q := 52) C 1 dX8_follows_51 rfl rfl ?_
      refine r_get (q := 55) (t := 0) C koX8 wd_eq 2 (by decide) q702 rfl rfl dX8_follows_52 rfl ?_
      refine r_iload (q := 57) C 0 dX8_follows_55 rfl rfl ?_
      refine r_iald (q := 58) (t := 3) C ((wd_ne (by decide)).trans h3) i rfl (by omega) (by decide) dX8_follows_57 rfl ?_
      refine r_iload_n (q := 59) C 2 dX8_follows_58 rfl rfl ?_
      refine r_icmp_ne (q := 62) (tgt := 73) C dX8_follows_59 (by decide) rfl (fun hc5 => ?_) (fun hc5 => ?_)
      · refine r_iinc (q := 76) (v := nI (i + 1)) (lv' := [(5, .int (nI (i + 1))), (0, .ref m0), (1, .int (nI d9)), (2, .int (nI vh)), (3, .long (lN ta))]) C 0 dX8_follows_73 rfl (nI_1 i) (by decide) rfl rfl ?_
        refine r_goto (tgt := 42) C dX8_follows_76 (by decide) ?_
        refine r_sub (lv' := [(5, .int (nI (i + 1))), (0, .ref m0), (1, .int (nI d9)), (2, .int (nI vh)), (3, .long (lN ta))]) [0, 1, 2, 3, 4] rfl ?_
        exact ih (i + 1) (by omega)
      · refine r_aload_n (q := 63) C 1 dX8_follows_62 rfl rfl ?_
        refine r_get (q := 66) (t := 0) C koX8 wd_eq 3 (by decide) q703 rfl rfl dX8_follows_63 rfl ?_
        refine r_iload (q := 68) C 0 dX8_follows_66 rfl rfl ?_
        refine r_iald (q := 69) (t := 4) C ((wd_ne (by decide)).trans h4) i rfl (by omega) (by decide) dX8_follows_68 rfl ?_
        refine r_iload_n (q := 70) C 3 dX8_follows_69 rfl rfl ?_
        refine r_icmp_eq (q := 73) (tgt := 79) C dX8_follows_70 (by decide) rfl (fun hc8 => ?_) (fun hc8 => ?_)
        · exact absurd (i10 i k9 (by omega) hk.1 (hc5.trans hd9.symm) (hc8.trans hk.2.1.symm)) (by omega)
        · refine r_iinc (q := 76) (v := nI (i + 1)) (lv' := [(5, .int (nI (i + 1))), (0, .ref m0), (1, .int (nI d9)), (2, .int (nI vh)), (3, .long (lN ta))]) C 0 dX8_follows_73 rfl (nI_1 i) (by decide) rfl rfl ?_
          refine r_goto (tgt := 42) C dX8_follows_76 (by decide) ?_
          refine r_sub (lv' := [(5, .int (nI (i + 1))), (0, .ref m0), (1, .int (nI d9)), (2, .int (nI vh)), (3, .long (lN ta))]) [0, 1, 2, 3, 4] rfl ?_
          exact ih (i + 1) (by omega)
  exact loop k9 0 (by omega)

set_option maxHeartbeats 4000000 in
set_option maxRecDepth 20000 in
theorem y_fol_a {l : Launch} {g : cx_G} {w : wd_T} {c m0 tk gN rN tN : Nat} {fl : Int32} {fn wn : Nat → Nat} {gp by9 rD tD tV tT : Nat → Int32} (hM : MdAt g w m0 fl tk gN rN tN fn wn gp by9 rD tD tV tT) (hI : Iv9 c tk gN rN tN fn wn by9 tD tV tT) {d9 vh ta : Nat} (hd : d9 ≤ 100000) (hv : vh ≤ 99) (ht : ta ≤ 1000000000) (h9u : ∀ k, lu9 tD tV (nI d9) (nI vh) tN = some k → tD k ≠ nI d9) : Mt l g yX8_follows cX8_follows 6 (some .boolean) 1 0 0 w [.ref m0, .int (nI d9), .int (nI vh), .long (lN ta)] (fun v w' => v = some (.int (nI 1)) ∧ MdAt g w' m0 (nI 0) tk gN rN (tN + 1) fn wn gp by9 rD (upd tD tN (nI d9)) (upd tV tN (nI vh)) (upd tT tN (nI ta)) ∧ Fm w w') := by
  refine mt_of RX8 "follows" rfl rfl (by decide) (Nat.le_of_ble_eq_true rfl) [(0, .ref m0), (1, .int (nI d9)), (2, .int (nI vh)), (3, .long (lN ta))] rfl ?_
  intro k hkl C hin
  subst hkl
  obtain ⟨ad, rS, fS, lv, fo, h0, hks, h3, h4, h5, h6, h7, h8, h9, h10, hsc, h16, h17⟩ := id hM
  obtain ⟨i0, i1, i2, i3, i4, i5, i6, i7, i8, i9, i10⟩ := id hI
  refine r_aload_n (q := 1) C 0 dX8_follows_0 rfl rfl ?_
  refine r_iconst (q := 2) C (nI 0) dX8_follows_1 (by decide) rfl ?_
  refine r_put (q := 5) (t := 0) (w' := wd_set w 0 m0 (mo ad (nI tN) (nI tk) (nI (tk + gN)) (nI gN) (nI rN) (nI 0) rS fS)) C koX8 h0 15 (by decide) q715 rfl rfl rfl rfl (Nat.le_of_ble_eq_true rfl) dX8_follows_2 rfl rfl ?_
  refine r_iload_n (q := 6) C 1 dX8_follows_5 rfl rfl ?_
  refine r_i2l (q := 7) C dX8_follows_6 rfl ?_
  refine r_tl (show ((nI d9).toInt64 : Int64) = lN d9 from nI_l (by omega)) ?_
  refine r_ldc2 (q := 10) (v := lN 100000) C dX8_follows_7 q784 rfl ?_
  refine r_callS (q := 13) (As := [.long (lN d9), .long (lN 100000)]) (st := []) C (m_in_y (n := d9) (b := 100000) hd (by decide)) q787 q785 q786 q9 ⟨by decide, by decide⟩ (show (parseMethodDescriptor yX8_isIn.desc).map (fun d => d.parameters.length) = some 2 by decide +kernel) (by decide) (by decide) (by decide) (by decide) (Nat.le_of_ble_eq_true rfl) rfl dX8_follows_10 rfl ?_
  rintro v9 w1 ⟨rfl, rfl⟩
  show V g k 6 (wd_set w 0 m0 (mo ad (nI tN) (nI tk) (nI (tk + gN)) (nI gN) (nI rN) (nI 0) rS fS)) 0 0 (kQ g k (fun v w' => v = some (.int (nI 1)) ∧ MdAt g w' m0 (nI 0) tk gN rN (tN + 1) fn wn gp by9 rD (upd tD tN (nI d9)) (upd tV tN (nI vh)) (upd tT tN (nI ta)) ∧ Fm w w') 0 0) 13 [(0, .ref m0), (1, .int (nI d9)), (2, .int (nI vh)), (3, .long (lN ta))] [.int (nI 1)]
  refine r_if_eq_f (q := 16) (tgt := 37) C dX8_follows_13 (by decide) rfl (by decide) ?_
  refine r_iload_n (q := 17) C 2 dX8_follows_16 rfl rfl ?_
  refine r_i2l (q := 18) C dX8_follows_17 rfl ?_
  refine r_tl (show ((nI vh).toInt64 : Int64) = lN vh from nI_l (by omega)) ?_
  refine r_ldc2 (q := 21) (v := lN 99) C dX8_follows_18 q788 rfl ?_
  refine r_callS (q := 24) (As := [.long (lN vh), .long (lN 99)]) (st := []) C (m_in_y (n := vh) (b := 99) hv (by decide)) q787 q785 q786 q9 ⟨by decide, by decide⟩ (show (parseMethodDescriptor yX8_isIn.desc).map (fun d => d.parameters.length) = some 2 by decide +kernel) (by decide) (by decide) (by decide) (by decide) (Nat.le_of_ble_eq_true rfl) rfl dX8_follows_21 rfl ?_
  rintro v9 w2 ⟨rfl, rfl⟩
  show V g k 6 (wd_set w 0 m0 (mo ad (nI tN) (nI tk) (nI (tk + gN)) (nI gN) (nI rN) (nI 0) rS fS)) 0 0 (kQ g k (fun v w' => v = some (.int (nI 1)) ∧ MdAt g w' m0 (nI 0) tk gN rN (tN + 1) fn wn gp by9 rD (upd tD tN (nI d9)) (upd tV tN (nI vh)) (upd tT tN (nI ta)) ∧ Fm w w') 0 0) 24 [(0, .ref m0), (1, .int (nI d9)), (2, .int (nI vh)), (3, .long (lN ta))] [.int (nI 1)]
  refine r_if_eq_f (q := 27) (tgt := 37) C dX8_follows_24 (by decide) rfl (by decide) ?_
  refine r_lload_n (q := 28) C 3 dX8_follows_27 rfl rfl ?_
  refine r_ldc2 (q := 31) (v := lN 1000000000) C dX8_follows_28 q789 rfl ?_
  refine r_callS (q := 34) (As := [.long (lN ta), .long (lN 1000000000)]) (st := []) C (m_in_y (n := ta) (b := 1000000000) ht (by decide)) q787 q785 q786 q9 ⟨by decide, by decide⟩ (show (parseMethodDescriptor yX8_isIn.desc).map (fun d => d.parameters.length) = some 2 by decide +kernel) (by decide) (by decide) (by decide) (by decide) (Nat.le_of_ble_eq_true rfl) rfl dX8_follows_31 rfl ?_
  rintro v9 w3 ⟨rfl, rfl⟩
  show V g k 6 (wd_set w 0 m0 (mo ad (nI tN) (nI tk) (nI (tk + gN)) (nI gN) (nI rN) (nI 0) rS fS)) 0 0 (kQ g k (fun v w' => v = some (.int (nI 1)) ∧ MdAt g w' m0 (nI 0) tk gN rN (tN + 1) fn wn gp by9 rD (upd tD tN (nI d9)) (upd tV tN (nI vh)) (upd tT tN (nI ta)) ∧ Fm w w') 0 0) 34 [(0, .ref m0), (1, .int (nI d9)), (2, .int (nI vh)), (3, .long (lN ta))] [.int (nI 1)]
  refine r_if_ne_t (tgt := 39) C dX8_follows_34 (by decide) (by decide) ?_
  refine r_iconst (q := 40) C (nI 0) dX8_follows_39 (by decide) rfl ?_
  refine r_istore (q := 42) (lv' := [(5, .int (nI 0)), (0, .ref m0), (1, .int (nI d9)), (2, .int (nI vh)), (3, .long (lN ta))]) C dX8_follows_40 (by decide) rfl rfl ?_
  refine r_sub (lv' := [(5, .int (nI 0)), (0, .ref m0), (1, .int (nI d9)), (2, .int (nI vh)), (3, .long (lN ta))]) [0, 1, 2, 3, 4] rfl ?_
  have loop : ∀ (r i : Nat)  , i + r = tN → V g k 6 (wd_set w 0 m0 (mo ad (nI tN) (nI tk) (nI (tk + gN)) (nI gN) (nI rN) (nI 0) rS fS)) 0 0 (kQ g k (fun v w' => v = some (.int (nI 1)) ∧ MdAt g w' m0 (nI 0) tk gN rN (tN + 1) fn wn gp by9 rD (upd tD tN (nI d9)) (upd tV tN (nI vh)) (upd tT tN (nI ta)) ∧ Fm w w') 0 0) 42 [(5, .int (nI i)), (0, .ref m0), (1, .int (nI d9)), (2, .int (nI vh)), (3, .long (lN ta))] [] := by
    intro r
    induction r with
    | zero =>
      intro i   hi 
      obtain rfl : tN = i := by omega
      refine r_iload (q := 44) C 0 dX8_follows_42 rfl rfl ?_
      refine r_aload_n (q := 45) C 1 dX8_follows_44 rfl rfl ?_
      refine r_get (q := 48) (t := 0) C koX8 wd_eq 5 (by decide) q705 rfl rfl dX8_follows_45 rfl ?_
      refine r_icmp_ge_t (tgt := 79) C dX8_follows_48 (by decide) ((nI_leI (a := tN) (b := tN) (by omega) (by omega)).mpr (by omega)) ?_
      refine r_aload_n (q := 80) C 1 dX8_follows_79 rfl rfl ?_
      refine r_get (q := 83) (t := 0) C koX8 wd_eq 2 (by decide) q702 rfl rfl dX8_follows_80 rfl ?_
      refine r_iload (q := 85) C 0 dX8_follows_83 rfl rfl ?_
      refine r_iload_n (q := 86) C 2 dX8_follows_85 rfl rfl ?_
      refine r_iast (q := 87) (t := 3) (w' := wd_set (wd_set w 0 m0 (mo ad (nI tN) (nI tk) (nI (tk + gN)) (nI gN) (nI rN) (nI 0) rS fS)) 3 (ad 3) (aI g 1100 (upd tD tN (nI d9)))) C ((wd_ne (by decide)).trans h3) tN rfl (by omega) (by decide) dX8_follows_86 rfl rfl ?_
      refine r_aload_n (q := 88) C 1 dX8_follows_87 rfl rfl ?_
      refine r_get (q := 91) (t := 0) C koX8 ((wd_ne (by decide)).trans wd_eq) 3 (by decide) q703 rfl rfl dX8_follows_88 rfl ?_
      refine r_iload (q := 93) C 0 dX8_follows_91 rfl rfl ?_
      refine r_iload_n (q := 94) C 3 dX8_follows_93 rfl rfl ?_
      refine r_iast (q := 95) (t := 4) (w' := wd_set (wd_set (wd_set w 0 m0 (mo ad (nI tN) (nI tk) (nI (tk + gN)) (nI gN) (nI rN) (nI 0) rS fS)) 3 (ad 3) (aI g 1100 (upd tD tN (nI d9)))) 4 (ad 4) (aI g 1100 (upd tV tN (nI vh)))) C ((wd_ne (by decide)).trans ((wd_ne (by decide)).trans h4)) tN rfl (by omega) (by decide) dX8_follows_94 rfl rfl ?_
      refine r_aload_n (q := 96) C 1 dX8_follows_95 rfl rfl ?_
      refine r_get (q := 99) (t := 0) C koX8 ((wd_ne (by decide)).trans ((wd_ne (by decide)).trans wd_eq)) 4 (by decide) q704 rfl rfl dX8_follows_96 rfl ?_
      refine r_iload (q := 101) C 0 dX8_follows_99 rfl rfl ?_
      refine r_lload_n (q := 102) C 4 dX8_follows_101 rfl rfl ?_
      refine r_l2i (q := 103) C dX8_follows_102 rfl ?_
      refine r_ti (show ((lN ta).toInt32 : Int32) = nI ta from lN_i ta) ?_
      refine r_iast (q := 104) (t := 5) (w' := wd_set (wd_set (wd_set (wd_set w 0 m0 (mo ad (nI tN) (nI tk) (nI (tk + gN)) (nI gN) (nI rN) (nI 0) rS fS)) 3 (ad 3) (aI g 1100 (upd tD tN (nI d9)))) 4 (ad 4) (aI g 1100 (upd tV tN (nI vh)))) 5 (ad 5) (aI g 1100 (upd tT tN (nI ta)))) C ((wd_ne (by decide)).trans ((wd_ne (by decide)).trans ((wd_ne (by decide)).trans h5))) tN rfl (by omega) (by decide) dX8_follows_103 rfl rfl ?_
      refine r_aload_n (q := 105) C 1 dX8_follows_104 rfl rfl ?_
      refine r_iload (q := 107) C 0 dX8_follows_105 rfl rfl ?_
      refine r_aload_n (q := 108) C 1 dX8_follows_107 rfl rfl ?_
      refine r_get (q := 111) (t := 0) C koX8 ((wd_ne (by decide)).trans ((wd_ne (by decide)).trans ((wd_ne (by decide)).trans wd_eq))) 5 (by decide) q705 rfl rfl dX8_follows_108 rfl ?_
      refine r_icmp_ne_f (q := 114) (tgt := 123) C dX8_follows_111 (by decide) rfl ((nI_eq (a := tN) (b := tN) (by omega) (by omega)).mpr (by omega)) ?_
      refine r_aload_n (q := 115) C 1 dX8_follows_114 rfl rfl ?_
      refine r_get (q := 118) (t := 0) C koX8 ((wd_ne (by decide)).trans ((wd_ne (by decide)).trans ((wd_ne (by decide)).trans wd_eq))) 5 (by decide) q705 rfl rfl dX8_follows_115 rfl ?_
      refine r_iconst (q := 119) C (nI 1) dX8_follows_118 (by decide) rfl ?_
      refine r_iadd (q := 120) C dX8_follows_119 rfl ?_
      refine r_ti (show ((nI tN) + (nI 1) : Int32) = nI (tN + 1) from nI_add tN 1) ?_
      refine r_goto (tgt := 127) C dX8_follows_120 (by decide) ?_
      refine r_put (q := 130) (t := 0) (w' := wd_set (wd_set (wd_set (wd_set w 3 (ad 3) (aI g 1100 (upd tD tN (nI d9)))) 4 (ad 4) (aI g 1100 (upd tV tN (nI vh)))) 5 (ad 5) (aI g 1100 (upd tT tN (nI ta)))) 0 m0 (mo ad (nI (tN + 1)) (nI tk) (nI (tk + gN)) (nI gN) (nI rN) (nI 0) rS fS)) C koX8 ((wd_ne (by decide)).trans ((wd_ne (by decide)).trans ((wd_ne (by decide)).trans wd_eq))) 5 (by decide) q705 rfl rfl rfl rfl (Nat.le_of_ble_eq_true rfl) dX8_follows_127 rfl (wd_pp (wd_pp (wd_pp wd_ss (by decide)) (by decide)) (by decide)) ?_
      refine r_iconst (q := 131) C (nI 1) dX8_follows_130 (by decide) rfl ?_
      exact r_zret C rfl rfl (by decide) (by decide) dX8_follows_131 ⟨rfl, ⟨ad, _, _, _, _, wd_eq, hks.kept (fun t _ _ => (by simp only [wd_set]; rw [if_neg (by omega), if_neg (by omega), if_neg (by omega), if_neg (by omega)])), ((wd_ne (by decide)).trans ((wd_ne (by decide)).trans ((wd_ne (by decide)).trans wd_eq))), ((wd_ne (by decide)).trans ((wd_ne (by decide)).trans wd_eq)), ((wd_ne (by decide)).trans wd_eq), ((wd_ne (by decide)).trans ((wd_ne (by decide)).trans ((wd_ne (by decide)).trans ((wd_ne (by decide)).trans h6)))), ((wd_ne (by decide)).trans ((wd_ne (by decide)).trans ((wd_ne (by decide)).trans ((wd_ne (by decide)).trans h7)))), ((wd_ne (by decide)).trans ((wd_ne (by decide)).trans ((wd_ne (by decide)).trans ((wd_ne (by decide)).trans h8)))), ((wd_ne (by decide)).trans ((wd_ne (by decide)).trans ((wd_ne (by decide)).trans ((wd_ne (by decide)).trans h9)))), ((wd_ne (by decide)).trans ((wd_ne (by decide)).trans ((wd_ne (by decide)).trans ((wd_ne (by decide)).trans h10)))), hsc.kept (fun t _ _ => (by simp only [wd_set]; rw [if_neg (by omega), if_neg (by omega), if_neg (by omega), if_neg (by omega)])), ((wd_ne (by decide)).trans ((wd_ne (by decide)).trans ((wd_ne (by decide)).trans ((wd_ne (by decide)).trans h16)))), ((wd_ne (by decide)).trans ((wd_ne (by decide)).trans ((wd_ne (by decide)).trans ((wd_ne (by decide)).trans h17))))⟩, fun t ht => (by simp only [wd_set]; rw [if_neg (by omega), if_neg (by omega), if_neg (by omega), if_neg (by omega)])⟩
    | succ r ih =>
      intro i   hi 
      refine r_iload (q := 44) C 0 dX8_follows_42 rfl rfl ?_
      refine r_aload_n (q := 45) C 1 dX8_follows_44 rfl rfl ?_
      refine r_get (q := 48) (t := 0) C koX8 wd_eq 5 (by decide) q705 rfl rfl dX8_follows_45 rfl ?_
      refine r_icmp_ge_f (q := 51) (tgt := 79) C dX8_follows_48 (by decide) rfl (fun z => absurd ((nI_leI (a := tN) (b := i) (by omega) (by omega)).mp z) (by omega)) ?_
      refine r_aload_n (q := 52) C 1 dX8_follows_51 rfl rfl ?_
      refine r_get (q := 55) (t := 0) C koX8 wd_eq 2 (by decide) q702 rfl rfl dX8_follows_52 rfl ?_
      refine r_iload (q := 57) C 0 dX8_follows_55 rfl rfl ?_
      refine r_iald (q := 58) (t := 3) C ((wd_ne (by decide)).trans h3) i rfl (by omega) (by decide) dX8_follows_57 rfl ?_
      refine r_iload_n (q := 59) C 2 dX8_follows_58 rfl rfl ?_
      refine r_icmp_ne (q := 62) (tgt := 73) C dX8_follows_59 (by decide) rfl (fun hc5 => ?_) (fun hc5 => ?_)
      · refine r_iinc (q := 76) (v := nI (i + 1)) (lv' := [(5, .int (nI (i + 1))), (0, .ref m0), (1, .int (nI d9)), (2, .int (nI vh)), (3, .long (lN ta))]) C 0 dX8_follows_73 rfl (nI_1 i) (by decide) rfl rfl ?_
        refine r_goto (tgt := 42) C dX8_follows_76 (by decide) ?_
        refine r_sub (lv' := [(5, .int (nI (i + 1))), (0, .ref m0), (1, .int (nI d9)), (2, .int (nI vh)), (3, .long (lN ta))]) [0, 1, 2, 3, 4] rfl ?_
        exact ih (i + 1) (by omega)
      · refine r_aload_n (q := 63) C 1 dX8_follows_62 rfl rfl ?_
        refine r_get (q := 66) (t := 0) C koX8 wd_eq 3 (by decide) q703 rfl rfl dX8_follows_63 rfl ?_
        refine r_iload (q := 68) C 0 dX8_follows_66 rfl rfl ?_
        refine r_iald (q := 69) (t := 4) C ((wd_ne (by decide)).trans h4) i rfl (by omega) (by decide) dX8_follows_68 rfl ?_
        refine r_iload_n (q := 70) C 3 dX8_follows_69 rfl rfl ?_
        refine r_icmp_eq (q := 73) (tgt := 79) C dX8_follows_70 (by decide) rfl (fun hc8 => ?_) (fun hc8 => ?_)
        · obtain ⟨k8, e8, d8⟩ := lu9_hit tN i (by omega) hc8 hc5
          exact absurd d8 (h9u k8 e8)
        · refine r_iinc (q := 76) (v := nI (i + 1)) (lv' := [(5, .int (nI (i + 1))), (0, .ref m0), (1, .int (nI d9)), (2, .int (nI vh)), (3, .long (lN ta))]) C 0 dX8_follows_73 rfl (nI_1 i) (by decide) rfl rfl ?_
          refine r_goto (tgt := 42) C dX8_follows_76 (by decide) ?_
          refine r_sub (lv' := [(5, .int (nI (i + 1))), (0, .ref m0), (1, .int (nI d9)), (2, .int (nI vh)), (3, .long (lN ta))]) [0, 1, 2, 3, 4] rfl ?_
          exact ih (i + 1) (by omega)
  exact loop tN 0 (by omega)
