/-! the reference: ticket -/
theorem nw_chain {fn : Nat → Nat} {k nu vh kd gr ta sc ps : Nat} (h5 : fn (9 * k + 5) = 0) : upN (upN (upN (upN (upN (upN (upN (upN (fn) (9 * k) nu) (9 * k + 1) vh) (9 * k + 2) kd) (9 * k + 3) gr) (9 * k + 4) ta) (9 * k + 6) sc) (9 * k + 7) ps) (9 * k + 8) 0 = stF fn k (nwL nu vh kd gr ta sc ps) := by
  funext p
  by_cases z : 9 * k ≤ p ∧ p < 9 * k + 9
  · obtain ⟨j, hj, rfl⟩ : ∃ j, j < 9 ∧ p = 9 * k + j := ⟨p - 9 * k, by omega, by omega⟩
    rw [stF_v hj]
    unfold upN
    have c : j = 0 ∨ j = 1 ∨ j = 2 ∨ j = 3 ∨ j = 4 ∨ j = 5 ∨ j = 6 ∨ j = 7 ∨ j = 8 := by omega
    rcases c with rfl | rfl | rfl | rfl | rfl | rfl | rfl | rfl | rfl
    · rw [if_neg (by omega), if_neg (by omega), if_neg (by omega), if_neg (by omega), if_neg (by omega), if_neg (by omega), if_neg (by omega), if_pos (by omega)]; rfl
    · rw [if_neg (by omega), if_neg (by omega), if_neg (by omega), if_neg (by omega), if_neg (by omega), if_neg (by omega), if_pos (by omega)]; rfl
    · rw [if_neg (by omega), if_neg (by omega), if_neg (by omega), if_neg (by omega), if_neg (by omega), if_pos (by omega)]; rfl
    · rw [if_neg (by omega), if_neg (by omega), if_neg (by omega), if_neg (by omega), if_pos (by omega)]; rfl
    · rw [if_neg (by omega), if_neg (by omega), if_neg (by omega), if_pos (by omega)]; rfl
    · rw [if_neg (by omega), if_neg (by omega), if_neg (by omega), if_neg (by omega), if_neg (by omega), if_neg (by omega), if_neg (by omega), if_neg (by omega)]; exact h5
    · rw [if_neg (by omega), if_neg (by omega), if_pos (by omega)]; rfl
    · rw [if_neg (by omega), if_pos (by omega)]; rfl
    · rw [if_pos (by omega)]; rfl
  · unfold upN stF
    rw [if_neg z, if_neg (by omega), if_neg (by omega), if_neg (by omega), if_neg (by omega), if_neg (by omega), if_neg (by omega), if_neg (by omega), if_neg (by omega)]
set_option maxHeartbeats 4000000 in
set_option maxRecDepth 20000 in
theorem y_tk_b {l : Launch} {g : cx_G} {w : wd_T} {c m0 tk gN rN tN : Nat} {fl : Int32} {fn wn : Nat → Nat} {gp by9 rD tD tV tT : Nat → Int32} (hM : MdAt g w m0 fl tk gN rN tN fn wn gp by9 rD tD tV tT) (hI : Iv9 c tk gN rN tN fn wn by9 tD tV tT) {vh kd ps : Int32} {gr tr sc : Int64} (hb : ¬ (ok9 (nI 1) vh.toInt64 ∧ ok9 (nI 2) kd.toInt64 ∧ ok9 (nI 3) gr ∧ ok9 (nI 6) sc ∧ ok9 (nI 7) ps.toInt64)) : Mt l g yX8_ticket cX8_ticket 15 (some .int) 5 0 0 w [.ref m0, .int vh, .int kd, .long gr, .long tr, .long sc, .int ps] (fun v w' => v = some (.int (-1)) ∧ MdAt g w' m0 (nI 0) tk gN rN tN fn wn gp by9 rD tD tV tT ∧ Fm w w') := by
  refine mt_of RX8 "ticket" rfl rfl (by decide) (Nat.le_of_ble_eq_true rfl) [(0, .ref m0), (1, .int vh), (2, .int kd), (3, .long gr), (5, .long tr), (7, .long sc), (9, .int ps)] rfl ?_
  intro k hkl C hin
  subst hkl
  obtain ⟨ad, rS, fS, lv, fo, h0, hks, h3, h4, h5, h6, h7, h8, h9, h10, hsc, h16, h17⟩ := id hM
  obtain ⟨i0, i1, i2, i3, i4, i5, i6, i7, i8, i9, i10⟩ := id hI
  refine r_aload_n (q := 1) C 0 dX8_ticket_0 rfl rfl ?_
  refine r_iconst (q := 2) C (nI 0) dX8_ticket_1 (by decide) rfl ?_
  refine r_put (q := 5) (t := 0) (w' := wd_set w 0 m0 (mo ad (nI tN) (nI tk) (nI (tk + gN)) (nI gN) (nI rN) (nI 0) rS fS)) C koX8 h0 15 (by decide) q715 rfl rfl rfl rfl (Nat.le_of_ble_eq_true rfl) dX8_ticket_2 rfl rfl ?_
  refine r_iconst (q := 6) C (nI 1) dX8_ticket_5 (by decide) rfl ?_
  refine r_iload_n (q := 7) C 1 dX8_ticket_6 rfl rfl ?_
  refine r_i2l (q := 8) C dX8_ticket_7 rfl ?_
  by_cases uu0 : ok9 (nI 1) vh.toInt64
  · refine r_callS (q := 11) (As := [.int (nI 1), .long vh.toInt64]) (st := []) C (m_cb_ok uu0) q796 q794 q795 q9 ⟨by decide, by decide⟩ (show (parseMethodDescriptor yX8_canBe.desc).map (fun d => d.parameters.length) = some 2 by decide +kernel) (by decide) (by decide) (by decide) (by decide) (Nat.le_of_ble_eq_true rfl) rfl dX8_ticket_8 rfl ?_
    rintro v9 w1 ⟨rfl, rfl⟩
    show V g k 15 (wd_set w 0 m0 (mo ad (nI tN) (nI tk) (nI (tk + gN)) (nI gN) (nI rN) (nI 0) rS fS)) 0 0 (kQ g k (fun v w' => v = some (.int (-1)) ∧ MdAt g w' m0 (nI 0) tk gN rN tN fn wn gp by9 rD tD tV tT ∧ Fm w w') 0 0) 11 [(0, .ref m0), (1, .int vh), (2, .int kd), (3, .long gr), (5, .long tr), (7, .long sc), (9, .int ps)] [.int (nI 1)]
    refine r_if_eq_f (q := 14) (tgt := 70) C dX8_ticket_11 (by decide) rfl (by decide) ?_
    refine r_iconst (q := 15) C (nI 2) dX8_ticket_14 (by decide) rfl ?_
    refine r_iload_n (q := 16) C 2 dX8_ticket_15 rfl rfl ?_
    refine r_i2l (q := 17) C dX8_ticket_16 rfl ?_
    by_cases uu1 : ok9 (nI 2) kd.toInt64
    · refine r_callS (q := 20) (As := [.int (nI 2), .long kd.toInt64]) (st := []) C (m_cb_ok uu1) q796 q794 q795 q9 ⟨by decide, by decide⟩ (show (parseMethodDescriptor yX8_canBe.desc).map (fun d => d.parameters.length) = some 2 by decide +kernel) (by decide) (by decide) (by decide) (by decide) (Nat.le_of_ble_eq_true rfl) rfl dX8_ticket_17 rfl ?_
      rintro v9 w2 ⟨rfl, rfl⟩
      show V g k 15 (wd_set w 0 m0 (mo ad (nI tN) (nI tk) (nI (tk + gN)) (nI gN) (nI rN) (nI 0) rS fS)) 0 0 (kQ g k (fun v w' => v = some (.int (-1)) ∧ MdAt g w' m0 (nI 0) tk gN rN tN fn wn gp by9 rD tD tV tT ∧ Fm w w') 0 0) 20 [(0, .ref m0), (1, .int vh), (2, .int kd), (3, .long gr), (5, .long tr), (7, .long sc), (9, .int ps)] [.int (nI 1)]
      refine r_if_eq_f (q := 23) (tgt := 70) C dX8_ticket_20 (by decide) rfl (by decide) ?_
      refine r_iconst (q := 24) C (nI 3) dX8_ticket_23 (by decide) rfl ?_
      refine r_lload_n (q := 25) C 3 dX8_ticket_24 rfl rfl ?_
      by_cases uu2 : ok9 (nI 3) gr
      · refine r_callS (q := 28) (As := [.int (nI 3), .long gr]) (st := []) C (m_cb_ok uu2) q796 q794 q795 q9 ⟨by decide, by decide⟩ (show (parseMethodDescriptor yX8_canBe.desc).map (fun d => d.parameters.length) = some 2 by decide +kernel) (by decide) (by decide) (by decide) (by decide) (Nat.le_of_ble_eq_true rfl) rfl dX8_ticket_25 rfl ?_
        rintro v9 w3 ⟨rfl, rfl⟩
        show V g k 15 (wd_set w 0 m0 (mo ad (nI tN) (nI tk) (nI (tk + gN)) (nI gN) (nI rN) (nI 0) rS fS)) 0 0 (kQ g k (fun v w' => v = some (.int (-1)) ∧ MdAt g w' m0 (nI 0) tk gN rN tN fn wn gp by9 rD tD tV tT ∧ Fm w w') 0 0) 28 [(0, .ref m0), (1, .int vh), (2, .int kd), (3, .long gr), (5, .long tr), (7, .long sc), (9, .int ps)] [.int (nI 1)]
        refine r_if_eq_f (q := 31) (tgt := 70) C dX8_ticket_28 (by decide) rfl (by decide) ?_
        refine r_lload (q := 33) C 4 dX8_ticket_31 rfl rfl ?_
        refine r_ldc2 (q := 36) (v := (-1)) C dX8_ticket_33 q800 rfl ?_
        refine r_lcmp_eq (q := 37) (q2 := 40) (tgt := 49) C dX8_ticket_36 rfl dX8_ticket_37 (by decide) rfl (fun hc4 => ?_) (fun hc4 => ?_)
        · refine r_bipush (q := 51) C (nI 6) dX8_ticket_49 (by decide) rfl ?_
          refine r_lload (q := 53) C 5 dX8_ticket_51 rfl rfl ?_
          by_cases uu4 : ok9 (nI 6) sc
          · refine r_callS (q := 56) (As := [.int (nI 6), .long sc]) (st := []) C (m_cb_ok uu4) q796 q794 q795 q9 ⟨by decide, by decide⟩ (show (parseMethodDescriptor yX8_canBe.desc).map (fun d => d.parameters.length) = some 2 by decide +kernel) (by decide) (by decide) (by decide) (by decide) (Nat.le_of_ble_eq_true rfl) rfl dX8_ticket_53 rfl ?_
            rintro v9 w6 ⟨rfl, rfl⟩
            show V g k 15 (wd_set w 0 m0 (mo ad (nI tN) (nI tk) (nI (tk + gN)) (nI gN) (nI rN) (nI 0) rS fS)) 0 0 (kQ g k (fun v w' => v = some (.int (-1)) ∧ MdAt g w' m0 (nI 0) tk gN rN tN fn wn gp by9 rD tD tV tT ∧ Fm w w') 0 0) 56 [(0, .ref m0), (1, .int vh), (2, .int kd), (3, .long gr), (5, .long tr), (7, .long sc), (9, .int ps)] [.int (nI 1)]
            refine r_if_eq_f (q := 59) (tgt := 70) C dX8_ticket_56 (by decide) rfl (by decide) ?_
            refine r_bipush (q := 61) C (nI 7) dX8_ticket_59 (by decide) rfl ?_
            refine r_iload (q := 63) C 6 dX8_ticket_61 rfl rfl ?_
            refine r_i2l (q := 64) C dX8_ticket_63 rfl ?_
            by_cases uu5 : ok9 (nI 7) ps.toInt64
            · exact absurd ⟨uu0, uu1, uu2, uu4, uu5⟩ hb
            · refine r_callS (q := 67) (As := [.int (nI 7), .long ps.toInt64]) (st := []) C (m_cb_n uu5) q796 q794 q795 q9 ⟨by decide, by decide⟩ (show (parseMethodDescriptor yX8_canBe.desc).map (fun d => d.parameters.length) = some 2 by decide +kernel) (by decide) (by decide) (by decide) (by decide) (Nat.le_of_ble_eq_true rfl) rfl dX8_ticket_64 rfl ?_
              rintro v9 w7 ⟨rfl, rfl⟩
              show V g k 15 (wd_set w 0 m0 (mo ad (nI tN) (nI tk) (nI (tk + gN)) (nI gN) (nI rN) (nI 0) rS fS)) 0 0 (kQ g k (fun v w' => v = some (.int (-1)) ∧ MdAt g w' m0 (nI 0) tk gN rN tN fn wn gp by9 rD tD tV tT ∧ Fm w w') 0 0) 67 [(0, .ref m0), (1, .int vh), (2, .int kd), (3, .long gr), (5, .long tr), (7, .long sc), (9, .int ps)] [.int (nI 0)]
              refine r_if_ne_f (q := 70) (tgt := 72) C dX8_ticket_67 (by decide) rfl (by decide) ?_
              refine r_iconst (q := 71) C ((-1)) dX8_ticket_70 (by decide) rfl ?_
              exact r_iret C rfl (by decide) (by decide) dX8_ticket_71 ⟨rfl, ⟨ad, _, _, _, _, wd_eq, hks.kept (fun t _ _ => (by simp only [wd_set]; rw [if_neg (by omega)])), ((wd_ne (by decide)).trans h3), ((wd_ne (by decide)).trans h4), ((wd_ne (by decide)).trans h5), ((wd_ne (by decide)).trans h6), ((wd_ne (by decide)).trans h7), ((wd_ne (by decide)).trans h8), ((wd_ne (by decide)).trans h9), ((wd_ne (by decide)).trans h10), hsc.kept (fun t _ _ => (by simp only [wd_set]; rw [if_neg (by omega)])), ((wd_ne (by decide)).trans h16), ((wd_ne (by decide)).trans h17)⟩, fun t ht => (by simp only [wd_set]; rw [if_neg (by omega)])⟩
          · refine r_callS (q := 56) (As := [.int (nI 6), .long sc]) (st := []) C (m_cb_n uu4) q796 q794 q795 q9 ⟨by decide, by decide⟩ (show (parseMethodDescriptor yX8_canBe.desc).map (fun d => d.parameters.length) = some 2 by decide +kernel) (by decide) (by decide) (by decide) (by decide) (Nat.le_of_ble_eq_true rfl) rfl dX8_ticket_53 rfl ?_
            rintro v9 w8 ⟨rfl, rfl⟩
            show V g k 15 (wd_set w 0 m0 (mo ad (nI tN) (nI tk) (nI (tk + gN)) (nI gN) (nI rN) (nI 0) rS fS)) 0 0 (kQ g k (fun v w' => v = some (.int (-1)) ∧ MdAt g w' m0 (nI 0) tk gN rN tN fn wn gp by9 rD tD tV tT ∧ Fm w w') 0 0) 56 [(0, .ref m0), (1, .int vh), (2, .int kd), (3, .long gr), (5, .long tr), (7, .long sc), (9, .int ps)] [.int (nI 0)]
            refine r_if_eq_t (tgt := 70) C dX8_ticket_56 (by decide) (by decide) ?_
            refine r_iconst (q := 71) C ((-1)) dX8_ticket_70 (by decide) rfl ?_
            exact r_iret C rfl (by decide) (by decide) dX8_ticket_71 ⟨rfl, ⟨ad, _, _, _, _, wd_eq, hks.kept (fun t _ _ => (by simp only [wd_set]; rw [if_neg (by omega)])), ((wd_ne (by decide)).trans h3), ((wd_ne (by decide)).trans h4), ((wd_ne (by decide)).trans h5), ((wd_ne (by decide)).trans h6), ((wd_ne (by decide)).trans h7), ((wd_ne (by decide)).trans h8), ((wd_ne (by decide)).trans h9), ((wd_ne (by decide)).trans h10), hsc.kept (fun t _ _ => (by simp only [wd_set]; rw [if_neg (by omega)])), ((wd_ne (by decide)).trans h16), ((wd_ne (by decide)).trans h17)⟩, fun t ht => (by simp only [wd_set]; rw [if_neg (by omega)])⟩
        · refine r_iconst (q := 41) C (nI 4) dX8_ticket_40 (by decide) rfl ?_
          refine r_lload (q := 43) C 4 dX8_ticket_41 rfl rfl ?_
          by_cases uu3 : ok9 (nI 4) tr
          · refine r_callS (q := 46) (As := [.int (nI 4), .long tr]) (st := []) C (m_cb_ok uu3) q796 q794 q795 q9 ⟨by decide, by decide⟩ (show (parseMethodDescriptor yX8_canBe.desc).map (fun d => d.parameters.length) = some 2 by decide +kernel) (by decide) (by decide) (by decide) (by decide) (Nat.le_of_ble_eq_true rfl) rfl dX8_ticket_43 rfl ?_
            rintro v9 w10 ⟨rfl, rfl⟩
            show V g k 15 (wd_set w 0 m0 (mo ad (nI tN) (nI tk) (nI (tk + gN)) (nI gN) (nI rN) (nI 0) rS fS)) 0 0 (kQ g k (fun v w' => v = some (.int (-1)) ∧ MdAt g w' m0 (nI 0) tk gN rN tN fn wn gp by9 rD tD tV tT ∧ Fm w w') 0 0) 46 [(0, .ref m0), (1, .int vh), (2, .int kd), (3, .long gr), (5, .long tr), (7, .long sc), (9, .int ps)] [.int (nI 1)]
            refine r_if_eq_f (q := 49) (tgt := 70) C dX8_ticket_46 (by decide) rfl (by decide) ?_
            refine r_bipush (q := 51) C (nI 6) dX8_ticket_49 (by decide) rfl ?_
            refine r_lload (q := 53) C 5 dX8_ticket_51 rfl rfl ?_
            by_cases uu4 : ok9 (nI 6) sc
            · refine r_callS (q := 56) (As := [.int (nI 6), .long sc]) (st := []) C (m_cb_ok uu4) q796 q794 q795 q9 ⟨by decide, by decide⟩ (show (parseMethodDescriptor yX8_canBe.desc).map (fun d => d.parameters.length) = some 2 by decide +kernel) (by decide) (by decide) (by decide) (by decide) (Nat.le_of_ble_eq_true rfl) rfl dX8_ticket_53 rfl ?_
              rintro v9 w11 ⟨rfl, rfl⟩
              show V g k 15 (wd_set w 0 m0 (mo ad (nI tN) (nI tk) (nI (tk + gN)) (nI gN) (nI rN) (nI 0) rS fS)) 0 0 (kQ g k (fun v w' => v = some (.int (-1)) ∧ MdAt g w' m0 (nI 0) tk gN rN tN fn wn gp by9 rD tD tV tT ∧ Fm w w') 0 0) 56 [(0, .ref m0), (1, .int vh), (2, .int kd), (3, .long gr), (5, .long tr), (7, .long sc), (9, .int ps)] [.int (nI 1)]
              refine r_if_eq_f (q := 59) (tgt := 70) C dX8_ticket_56 (by decide) rfl (by decide) ?_
              refine r_bipush (q := 61) C (nI 7) dX8_ticket_59 (by decide) rfl ?_
              refine r_iload (q := 63) C 6 dX8_ticket_61 rfl rfl ?_
              refine r_i2l (q := 64) C dX8_ticket_63 rfl ?_
              by_cases uu5 : ok9 (nI 7) ps.toInt64
              · exact absurd ⟨uu0, uu1, uu2, uu4, uu5⟩ hb
              · refine r_callS (q := 67) (As := [.int (nI 7), .long ps.toInt64]) (st := []) C (m_cb_n uu5) q796 q794 q795 q9 ⟨by decide, by decide⟩ (show (parseMethodDescriptor yX8_canBe.desc).map (fun d => d.parameters.length) = some 2 by decide +kernel) (by decide) (by decide) (by decide) (by decide) (Nat.le_of_ble_eq_true rfl) rfl dX8_ticket_64 rfl ?_
                rintro v9 w12 ⟨rfl, rfl⟩
                show V g k 15 (wd_set w 0 m0 (mo ad (nI tN) (nI tk) (nI (tk + gN)) (nI gN) (nI rN) (nI 0) rS fS)) 0 0 (kQ g k (fun v w' => v = some (.int (-1)) ∧ MdAt g w' m0 (nI 0) tk gN rN tN fn wn gp by9 rD tD tV tT ∧ Fm w w') 0 0) 67 [(0, .ref m0), (1, .int vh), (2, .int kd), (3, .long gr), (5, .long tr), (7, .long sc), (9, .int ps)] [.int (nI 0)]
                refine r_if_ne_f (q := 70) (tgt := 72) C dX8_ticket_67 (by decide) rfl (by decide) ?_
                refine r_iconst (q := 71) C ((-1)) dX8_ticket_70 (by decide) rfl ?_
                exact r_iret C rfl (by decide) (by decide) dX8_ticket_71 ⟨rfl, ⟨ad, _, _, _, _, wd_eq, hks.kept (fun t _ _ => (by simp only [wd_set]; rw [if_neg (by omega)])), ((wd_ne (by decide)).trans h3), ((wd_ne (by decide)).trans h4), ((wd_ne (by decide)).trans h5), ((wd_ne (by decide)).trans h6), ((wd_ne (by decide)).trans h7), ((wd_ne (by decide)).trans h8), ((wd_ne (by decide)).trans h9), ((wd_ne (by decide)).trans h10), hsc.kept (fun t _ _ => (by simp only [wd_set]; rw [if_neg (by omega)])), ((wd_ne (by decide)).trans h16), ((wd_ne (by decide)).trans h17)⟩, fun t ht => (by simp only [wd_set]; rw [if_neg (by omega)])⟩
            · refine r_callS (q := 56) (As := [.int (nI 6), .long sc]) (st := []) C (m_cb_n uu4) q796 q794 q795 q9 ⟨by decide, by decide⟩ (show (parseMethodDescriptor yX8_canBe.desc).map (fun d => d.parameters.length) = some 2 by decide +kernel) (by decide) (by decide) (by decide) (by decide) (Nat.le_of_ble_eq_true rfl) rfl dX8_ticket_53 rfl ?_
              rintro v9 w13 ⟨rfl, rfl⟩
              show V g k 15 (wd_set w 0 m0 (mo ad (nI tN) (nI tk) (nI (tk + gN)) (nI gN) (nI rN) (nI 0) rS fS)) 0 0 (kQ g k (fun v w' => v = some (.int (-1)) ∧ MdAt g w' m0 (nI 0) tk gN rN tN fn wn gp by9 rD tD tV tT ∧ Fm w w') 0 0) 56 [(0, .ref m0), (1, .int vh), (2, .int kd), (3, .long gr), (5, .long tr), (7, .long sc), (9, .int ps)] [.int (nI 0)]
              refine r_if_eq_t (tgt := 70) C dX8_ticket_56 (by decide) (by decide) ?_
              refine r_iconst (q := 71) C ((-1)) dX8_ticket_70 (by decide) rfl ?_
              exact r_iret C rfl (by decide) (by decide) dX8_ticket_71 ⟨rfl, ⟨ad, _, _, _, _, wd_eq, hks.kept (fun t _ _ => (by simp only [wd_set]; rw [if_neg (by omega)])), ((wd_ne (by decide)).trans h3), ((wd_ne (by decide)).trans h4), ((wd_ne (by decide)).trans h5), ((wd_ne (by decide)).trans h6), ((wd_ne (by decide)).trans h7), ((wd_ne (by decide)).trans h8), ((wd_ne (by decide)).trans h9), ((wd_ne (by decide)).trans h10), hsc.kept (fun t _ _ => (by simp only [wd_set]; rw [if_neg (by omega)])), ((wd_ne (by decide)).trans h16), ((wd_ne (by decide)).trans h17)⟩, fun t ht => (by simp only [wd_set]; rw [if_neg (by omega)])⟩
          · refine r_callS (q := 46) (As := [.int (nI 4), .long tr]) (st := []) C (m_cb_n uu3) q796 q794 q795 q9 ⟨by decide, by decide⟩ (show (parseMethodDescriptor yX8_canBe.desc).map (fun d => d.parameters.length) = some 2 by decide +kernel) (by decide) (by decide) (by decide) (by decide) (Nat.le_of_ble_eq_true rfl) rfl dX8_ticket_43 rfl ?_
            rintro v9 w14 ⟨rfl, rfl⟩
            show V g k 15 (wd_set w 0 m0 (mo ad (nI tN) (nI tk) (nI (tk + gN)) (nI gN) (nI rN) (nI 0) rS fS)) 0 0 (kQ g k (fun v w' => v = some (.int (-1)) ∧ MdAt g w' m0 (nI 0) tk gN rN tN fn wn gp by9 rD tD tV tT ∧ Fm w w') 0 0) 46 [(0, .ref m0), (1, .int vh), (2, .int kd), (3, .long gr), (5, .long tr), (7, .long sc), (9, .int ps)] [.int (nI 0)]
            refine r_if_eq_t (tgt := 70) C dX8_ticket_46 (by decide) (by decide) ?_
            refine r_iconst (q := 71) C ((-1)) dX8_ticket_70 (by decide) rfl ?_
            exact r_iret C rfl (by decide) (by decide) dX8_ticket_71 ⟨rfl, ⟨ad, _, _, _, _, wd_eq, hks.kept (fun t _ _ => (by simp only [wd_set]; rw [if_neg (by omega)])), ((wd_ne (by decide)).trans h3), ((wd_ne (by decide)).trans h4), ((wd_ne (by decide)).trans h5), ((wd_ne (by decide)).trans h6), ((wd_ne (by decide)).trans h7), ((wd_ne (by decide)).trans h8), ((wd_ne (by decide)).trans h9), ((wd_ne (by decide)).trans h10), hsc.kept (fun t _ _ => (by simp only [wd_set]; rw [if_neg (by omega)])), ((wd_ne (by decide)).trans h16), ((wd_ne (by decide)).trans h17)⟩, fun t ht => (by simp only [wd_set]; rw [if_neg (by omega)])⟩
      · refine r_callS (q := 28) (As := [.int (nI 3), .long gr]) (st := []) C (m_cb_n uu2) q796 q794 q795 q9 ⟨by decide, by decide⟩ (show (parseMethodDescriptor yX8_canBe.desc).map (fun d => d.parameters.length) = some 2 by decide +kernel) (by decide) (by decide) (by decide) (by decide) (Nat.le_of_ble_eq_true rfl) rfl dX8_ticket_25 rfl ?_
        rintro v9 w15 ⟨rfl, rfl⟩
        show V g k 15 (wd_set w 0 m0 (mo ad (nI tN) (nI tk) (nI (tk + gN)) (nI gN) (nI rN) (nI 0) rS fS)) 0 0 (kQ g k (fun v w' => v = some (.int (-1)) ∧ MdAt g w' m0 (nI 0) tk gN rN tN fn wn gp by9 rD tD tV tT ∧ Fm w w') 0 0) 28 [(0, .ref m0), (1, .int vh), (2, .int kd), (3, .long gr), (5, .long tr), (7, .long sc), (9, .int ps)] [.int (nI 0)]
        refine r_if_eq_t (tgt := 70) C dX8_ticket_28 (by decide) (by decide) ?_
        refine r_iconst (q := 71) C ((-1)) dX8_ticket_70 (by decide) rfl ?_
        exact r_iret C rfl (by decide) (by decide) dX8_ticket_71 ⟨rfl, ⟨ad, _, _, _, _, wd_eq, hks.kept (fun t _ _ => (by simp only [wd_set]; rw [if_neg (by omega)])), ((wd_ne (by decide)).trans h3), ((wd_ne (by decide)).trans h4), ((wd_ne (by decide)).trans h5), ((wd_ne (by decide)).trans h6), ((wd_ne (by decide)).trans h7), ((wd_ne (by decide)).trans h8), ((wd_ne (by decide)).trans h9), ((wd_ne (by decide)).trans h10), hsc.kept (fun t _ _ => (by simp only [wd_set]; rw [if_neg (by omega)])), ((wd_ne (by decide)).trans h16), ((wd_ne (by decide)).trans h17)⟩, fun t ht => (by simp only [wd_set]; rw [if_neg (by omega)])⟩
    · refine r_callS (q := 20) (As := [.int (nI 2), .long kd.toInt64]) (st := []) C (m_cb_n uu1) q796 q794 q795 q9 ⟨by decide, by decide⟩ (show (parseMethodDescriptor yX8_canBe.desc).map (fun d => d.parameters.length) = some 2 by decide +kernel) (by decide) (by decide) (by decide) (by decide) (Nat.le_of_ble_eq_true rfl) rfl dX8_ticket_17 rfl ?_
      rintro v9 w16 ⟨rfl, rfl⟩
      show V g k 15 (wd_set w 0 m0 (mo ad (nI tN) (nI tk) (nI (tk + gN)) (nI gN) (nI rN) (nI 0) rS fS)) 0 0 (kQ g k (fun v w' => v = some (.int (-1)) ∧ MdAt g w' m0 (nI 0) tk gN rN tN fn wn gp by9 rD tD tV tT ∧ Fm w w') 0 0) 20 [(0, .ref m0), (1, .int vh), (2, .int kd), (3, .long gr), (5, .long tr), (7, .long sc), (9, .int ps)] [.int (nI 0)]
      refine r_if_eq_t (tgt := 70) C dX8_ticket_20 (by decide) (by decide) ?_
      refine r_iconst (q := 71) C ((-1)) dX8_ticket_70 (by decide) rfl ?_
      exact r_iret C rfl (by decide) (by decide) dX8_ticket_71 ⟨rfl, ⟨ad, _, _, _, _, wd_eq, hks.kept (fun t _ _ => (by simp only [wd_set]; rw [if_neg (by omega)])), ((wd_ne (by decide)).trans h3), ((wd_ne (by decide)).trans h4), ((wd_ne (by decide)).trans h5), ((wd_ne (by decide)).trans h6), ((wd_ne (by decide)).trans h7), ((wd_ne (by decide)).trans h8), ((wd_ne (by decide)).trans h9), ((wd_ne (by decide)).trans h10), hsc.kept (fun t _ _ => (by simp only [wd_set]; rw [if_neg (by omega)])), ((wd_ne (by decide)).trans h16), ((wd_ne (by decide)).trans h17)⟩, fun t ht => (by simp only [wd_set]; rw [if_neg (by omega)])⟩
  · refine r_callS (q := 11) (As := [.int (nI 1), .long vh.toInt64]) (st := []) C (m_cb_n uu0) q796 q794 q795 q9 ⟨by decide, by decide⟩ (show (parseMethodDescriptor yX8_canBe.desc).map (fun d => d.parameters.length) = some 2 by decide +kernel) (by decide) (by decide) (by decide) (by decide) (Nat.le_of_ble_eq_true rfl) rfl dX8_ticket_8 rfl ?_
    rintro v9 w17 ⟨rfl, rfl⟩
    show V g k 15 (wd_set w 0 m0 (mo ad (nI tN) (nI tk) (nI (tk + gN)) (nI gN) (nI rN) (nI 0) rS fS)) 0 0 (kQ g k (fun v w' => v = some (.int (-1)) ∧ MdAt g w' m0 (nI 0) tk gN rN tN fn wn gp by9 rD tD tV tT ∧ Fm w w') 0 0) 11 [(0, .ref m0), (1, .int vh), (2, .int kd), (3, .long gr), (5, .long tr), (7, .long sc), (9, .int ps)] [.int (nI 0)]
    refine r_if_eq_t (tgt := 70) C dX8_ticket_11 (by decide) (by decide) ?_
    refine r_iconst (q := 71) C ((-1)) dX8_ticket_70 (by decide) rfl ?_
    exact r_iret C rfl (by decide) (by decide) dX8_ticket_71 ⟨rfl, ⟨ad, _, _, _, _, wd_eq, hks.kept (fun t _ _ => (by simp only [wd_set]; rw [if_neg (by omega)])), ((wd_ne (by decide)).trans h3), ((wd_ne (by decide)).trans h4), ((wd_ne (by decide)).trans h5), ((wd_ne (by decide)).trans h6), ((wd_ne (by decide)).trans h7), ((wd_ne (by decide)).trans h8), ((wd_ne (by decide)).trans h9), ((wd_ne (by decide)).trans h10), hsc.kept (fun t _ _ => (by simp only [wd_set]; rw [if_neg (by omega)])), ((wd_ne (by decide)).trans h16), ((wd_ne (by decide)).trans h17)⟩, fun t ht => (by simp only [wd_set]; rw [if_neg (by omega)])⟩

set_option maxHeartbeats 4000000 in
set_option maxRecDepth 20000 in
theorem y_tk_u {l : Launch} {g : cx_G} {w : wd_T} {c m0 tk gN rN tN : Nat} {fl : Int32} {fn wn : Nat → Nat} {gp by9 rD tD tV tT : Nat → Int32} (hM : MdAt g w m0 fl tk gN rN tN fn wn gp by9 rD tD tV tT) (hI : Iv9 c tk gN rN tN fn wn by9 tD tV tT) {vh kd gr sc ps : Nat} (h1v : vh ≤ 99) (h2v : kd ≤ 9) (h3v : gr ≤ 1000000000) (h6v : sc ≤ 8000000000) (h7v : ps ≤ 999) (h9u : lu9 tD tV (nI (sc / 86400)) (nI vh) tN = none) : Mt l g yX8_ticket cX8_ticket 15 (some .int) 5 0 0 w [.ref m0, .int (nI vh), .int (nI kd), .long (lN gr), .long (-1), .long (lN sc), .int (nI ps)] (fun v w' => v = some (.int (-1)) ∧ MdAt g w' m0 (nI 0) tk gN rN tN fn wn gp by9 rD tD tV tT ∧ Fm w w') := by
  refine mt_of RX8 "ticket" rfl rfl (by decide) (Nat.le_of_ble_eq_true rfl) [(0, .ref m0), (1, .int (nI vh)), (2, .int (nI kd)), (3, .long (lN gr)), (5, .long (-1)), (7, .long (lN sc)), (9, .int (nI ps))] rfl ?_
  intro k hkl C hin
  subst hkl
  obtain ⟨ad, rS, fS, lv, fo, h0, hks, h3, h4, h5, h6, h7, h8, h9, h10, hsc, h16, h17⟩ := id hM
  obtain ⟨i0, i1, i2, i3, i4, i5, i6, i7, i8, i9, i10⟩ := id hI
  have hp1 : cb9 1 := by unfold cb9; omega
  have hp2 : cb9 2 := by unfold cb9; omega
  have hp3 : cb9 3 := by unfold cb9; omega
  have hp4 : cb9 4 := by unfold cb9; omega
  have hp6 : cb9 6 := by unfold cb9; omega
  have hp7 : cb9 7 := by unfold cb9; omega
  refine r_aload_n (q := 1) C 0 dX8_ticket_0 rfl rfl ?_
  refine r_iconst (q := 2) C (nI 0) dX8_ticket_1 (by decide) rfl ?_
  refine r_put (q := 5) (t := 0) (w' := wd_set w 0 m0 (mo ad (nI tN) (nI tk) (nI (tk + gN)) (nI gN) (nI rN) (nI 0) rS fS)) C koX8 h0 15 (by decide) q715 rfl rfl rfl rfl (Nat.le_of_ble_eq_true rfl) dX8_ticket_2 rfl rfl ?_
  refine r_iconst (q := 6) C (nI 1) dX8_ticket_5 (by decide) rfl ?_
  refine r_iload_n (q := 7) C 1 dX8_ticket_6 rfl rfl ?_
  refine r_i2l (q := 8) C dX8_ticket_7 rfl ?_
  refine r_tl (show ((nI vh).toInt64 : Int64) = lN vh from nI_l (by omega)) ?_
  refine r_callS (q := 11) (As := [.int (nI 1), .long (lN vh)]) (st := []) C (m_cb_y (f := 1) (n := vh) hp1 h1v) q796 q794 q795 q9 ⟨by decide, by decide⟩ (show (parseMethodDescriptor yX8_canBe.desc).map (fun d => d.parameters.length) = some 2 by decide +kernel) (by decide) (by decide) (by decide) (by decide) (Nat.le_of_ble_eq_true rfl) rfl dX8_ticket_8 rfl ?_
  rintro v9 w1 ⟨rfl, rfl⟩
  show V g k 15 (wd_set w 0 m0 (mo ad (nI tN) (nI tk) (nI (tk + gN)) (nI gN) (nI rN) (nI 0) rS fS)) 0 0 (kQ g k (fun v w' => v = some (.int (-1)) ∧ MdAt g w' m0 (nI 0) tk gN rN tN fn wn gp by9 rD tD tV tT ∧ Fm w w') 0 0) 11 [(0, .ref m0), (1, .int (nI vh)), (2, .int (nI kd)), (3, .long (lN gr)), (5, .long (-1)), (7, .long (lN sc)), (9, .int (nI ps))] [.int (nI 1)]
  refine r_if_eq_f (q := 14) (tgt := 70) C dX8_ticket_11 (by decide) rfl (by decide) ?_
  refine r_iconst (q := 15) C (nI 2) dX8_ticket_14 (by decide) rfl ?_
  refine r_iload_n (q := 16) C 2 dX8_ticket_15 rfl rfl ?_
  refine r_i2l (q := 17) C dX8_ticket_16 rfl ?_
  refine r_tl (show ((nI kd).toInt64 : Int64) = lN kd from nI_l (by omega)) ?_
  refine r_callS (q := 20) (As := [.int (nI 2), .long (lN kd)]) (st := []) C (m_cb_y (f := 2) (n := kd) hp2 h2v) q796 q794 q795 q9 ⟨by decide, by decide⟩ (show (parseMethodDescriptor yX8_canBe.desc).map (fun d => d.parameters.length) = some 2 by decide +kernel) (by decide) (by decide) (by decide) (by decide) (Nat.le_of_ble_eq_true rfl) rfl dX8_ticket_17 rfl ?_
  rintro v9 w2 ⟨rfl, rfl⟩
  show V g k 15 (wd_set w 0 m0 (mo ad (nI tN) (nI tk) (nI (tk + gN)) (nI gN) (nI rN) (nI 0) rS fS)) 0 0 (kQ g k (fun v w' => v = some (.int (-1)) ∧ MdAt g w' m0 (nI 0) tk gN rN tN fn wn gp by9 rD tD tV tT ∧ Fm w w') 0 0) 20 [(0, .ref m0), (1, .int (nI vh)), (2, .int (nI kd)), (3, .long (lN gr)), (5, .long (-1)), (7, .long (lN sc)), (9, .int (nI ps))] [.int (nI 1)]
  refine r_if_eq_f (q := 23) (tgt := 70) C dX8_ticket_20 (by decide) rfl (by decide) ?_
  refine r_iconst (q := 24) C (nI 3) dX8_ticket_23 (by decide) rfl ?_
  refine r_lload_n (q := 25) C 3 dX8_ticket_24 rfl rfl ?_
  refine r_callS (q := 28) (As := [.int (nI 3), .long (lN gr)]) (st := []) C (m_cb_y (f := 3) (n := gr) hp3 h3v) q796 q794 q795 q9 ⟨by decide, by decide⟩ (show (parseMethodDescriptor yX8_canBe.desc).map (fun d => d.parameters.length) = some 2 by decide +kernel) (by decide) (by decide) (by decide) (by decide) (Nat.le_of_ble_eq_true rfl) rfl dX8_ticket_25 rfl ?_
  rintro v9 w3 ⟨rfl, rfl⟩
  show V g k 15 (wd_set w 0 m0 (mo ad (nI tN) (nI tk) (nI (tk + gN)) (nI gN) (nI rN) (nI 0) rS fS)) 0 0 (kQ g k (fun v w' => v = some (.int (-1)) ∧ MdAt g w' m0 (nI 0) tk gN rN tN fn wn gp by9 rD tD tV tT ∧ Fm w w') 0 0) 28 [(0, .ref m0), (1, .int (nI vh)), (2, .int (nI kd)), (3, .long (lN gr)), (5, .long (-1)), (7, .long (lN sc)), (9, .int (nI ps))] [.int (nI 1)]
  refine r_if_eq_f (q := 31) (tgt := 70) C dX8_ticket_28 (by decide) rfl (by decide) ?_
  refine r_lload (q := 33) C 4 dX8_ticket_31 rfl rfl ?_
  refine r_ldc2 (q := 36) (v := (-1)) C dX8_ticket_33 q800 rfl ?_
  refine r_lcmp_eq (q := 37) (q2 := 40) (tgt := 49) C dX8_ticket_36 rfl dX8_ticket_37 (by decide) rfl (fun _ => ?_) (fun hz4 => absurd (rfl) (by first | exact hz4 | exact fun zz => zz hz4))
  refine r_bipush (q := 51) C (nI 6) dX8_ticket_49 (by decide) rfl ?_
  refine r_lload (q := 53) C 5 dX8_ticket_51 rfl rfl ?_
  refine r_callS (q := 56) (As := [.int (nI 6), .long (lN sc)]) (st := []) C (m_cb_y (f := 6) (n := sc) hp6 h6v) q796 q794 q795 q9 ⟨by decide, by decide⟩ (show (parseMethodDescriptor yX8_canBe.desc).map (fun d => d.parameters.length) = some 2 by decide +kernel) (by decide) (by decide) (by decide) (by decide) (Nat.le_of_ble_eq_true rfl) rfl dX8_ticket_53 rfl ?_
  rintro v9 w5 ⟨rfl, rfl⟩
  show V g k 15 (wd_set w 0 m0 (mo ad (nI tN) (nI tk) (nI (tk + gN)) (nI gN) (nI rN) (nI 0) rS fS)) 0 0 (kQ g k (fun v w' => v = some (.int (-1)) ∧ MdAt g w' m0 (nI 0) tk gN rN tN fn wn gp by9 rD tD tV tT ∧ Fm w w') 0 0) 56 [(0, .ref m0), (1, .int (nI vh)), (2, .int (nI kd)), (3, .long (lN gr)), (5, .long (-1)), (7, .long (lN sc)), (9, .int (nI ps))] [.int (nI 1)]
  refine r_if_eq_f (q := 59) (tgt := 70) C dX8_ticket_56 (by decide) rfl (by decide) ?_
  refine r_bipush (q := 61) C (nI 7) dX8_ticket_59 (by decide) rfl ?_
  refine r_iload (q := 63) C 6 dX8_ticket_61 rfl rfl ?_
  refine r_i2l (q := 64) C dX8_ticket_63 rfl ?_
  refine r_tl (show ((nI ps).toInt64 : Int64) = lN ps from nI_l (by omega)) ?_
  refine r_callS (q := 67) (As := [.int (nI 7), .long (lN ps)]) (st := []) C (m_cb_y (f := 7) (n := ps) hp7 h7v) q796 q794 q795 q9 ⟨by decide, by decide⟩ (show (parseMethodDescriptor yX8_canBe.desc).map (fun d => d.parameters.length) = some 2 by decide +kernel) (by decide) (by decide) (by decide) (by decide) (Nat.le_of_ble_eq_true rfl) rfl dX8_ticket_64 rfl ?_
  rintro v9 w6 ⟨rfl, rfl⟩
  show V g k 15 (wd_set w 0 m0 (mo ad (nI tN) (nI tk) (nI (tk + gN)) (nI gN) (nI rN) (nI 0) rS fS)) 0 0 (kQ g k (fun v w' => v = some (.int (-1)) ∧ MdAt g w' m0 (nI 0) tk gN rN tN fn wn gp by9 rD tD tV tT ∧ Fm w w') 0 0) 67 [(0, .ref m0), (1, .int (nI vh)), (2, .int (nI kd)), (3, .long (lN gr)), (5, .long (-1)), (7, .long (lN sc)), (9, .int (nI ps))] [.int (nI 1)]
  refine r_if_ne_t (tgt := 72) C dX8_ticket_67 (by decide) (by decide) ?_
  refine r_lload (q := 74) C 4 dX8_ticket_72 rfl rfl ?_
  refine r_lconst (q := 75) C (lN 0) dX8_ticket_74 (by decide) rfl ?_
  refine r_lcmp_ge (q := 76) (q2 := 79) (tgt := 92) C dX8_ticket_75 rfl dX8_ticket_76 (by decide) rfl (fun hz7 => absurd (show ¬ (lN 0 : Int64) ≤ -1 by decide) (by first | exact hz7 | exact fun zz => zz hz7)) (fun _ => ?_)
  refine r_aload_n (q := 80) C 0 dX8_ticket_79 rfl rfl ?_
  refine r_iload_n (q := 81) C 1 dX8_ticket_80 rfl rfl ?_
  refine r_lload (q := 83) C 5 dX8_ticket_81 rfl rfl ?_
  refine r_callS (q := 86) (As := [.long (lN sc)]) (st := [.int (nI vh), .ref m0]) C (m_dayOf h6v) q803 q801 q802 q9 ⟨by decide, by decide⟩ (show (parseMethodDescriptor yX8_dayOf.desc).map (fun d => d.parameters.length) = some 1 by decide +kernel) (by decide) (by decide) (by decide) (by decide) (Nat.le_of_ble_eq_true rfl) rfl dX8_ticket_83 rfl ?_
  rintro v9 w8 ⟨rfl, rfl⟩
  show V g k 15 (wd_set w 0 m0 (mo ad (nI tN) (nI tk) (nI (tk + gN)) (nI gN) (nI rN) (nI 0) rS fS)) 0 0 (kQ g k (fun v w' => v = some (.int (-1)) ∧ MdAt g w' m0 (nI 0) tk gN rN tN fn wn gp by9 rD tD tV tT ∧ Fm w w') 0 0) 86 [(0, .ref m0), (1, .int (nI vh)), (2, .int (nI kd)), (3, .long (lN gr)), (5, .long (-1)), (7, .long (lN sc)), (9, .int (nI ps))] [.int (nI (sc / 86400)), .int (nI vh), .ref m0]
  refine r_callV (q := 89) (t := 0) (As := [.int (nI vh), .int (nI (sc / 86400))]) (st := []) C koX8 wd_eq (m_tar_n wd_eq ((wd_ne (by decide)).trans h3) ((wd_ne (by decide)).trans h4) ((wd_ne (by decide)).trans h5) (by omega) h9u) q808 q805 q807 qp17 q9 rfl ⟨by decide, by decide⟩ (show (parseMethodDescriptor yX8_tareOf.desc).map (fun d => d.parameters.length) = some 2 by decide +kernel) (by decide) (by decide) (by decide) (by decide) (Nat.le_of_ble_eq_true rfl) rfl dX8_ticket_86 rfl ?_
  rintro v9 w9 ⟨rfl, rfl⟩
  show V g k 15 (wd_set w 0 m0 (mo ad (nI tN) (nI tk) (nI (tk + gN)) (nI gN) (nI rN) (nI 0) rS fS)) 0 0 (kQ g k (fun v w' => v = some (.int (-1)) ∧ MdAt g w' m0 (nI 0) tk gN rN tN fn wn gp by9 rD tD tV tT ∧ Fm w w') 0 0) 89 [(0, .ref m0), (1, .int (nI vh)), (2, .int (nI kd)), (3, .long (lN gr)), (5, .long (-1)), (7, .long (lN sc)), (9, .int (nI ps))] [.long (-1)]
  refine r_goto (tgt := 94) C dX8_ticket_89 (by decide) ?_
  refine r_lstore (q := 96) (lv' := [(10, .long (-1)), (0, .ref m0), (1, .int (nI vh)), (2, .int (nI kd)), (3, .long (lN gr)), (5, .long (-1)), (7, .long (lN sc)), (9, .int (nI ps))]) C dX8_ticket_94 (by decide) rfl rfl ?_
  refine r_lload (q := 98) C 0 dX8_ticket_96 rfl rfl ?_
  refine r_lconst (q := 99) C (lN 0) dX8_ticket_98 (by decide) rfl ?_
  refine r_lcmp_lt (q := 100) (q2 := 103) (tgt := 123) C dX8_ticket_99 rfl dX8_ticket_100 (by decide) rfl (fun _ => ?_) (fun hz10 => absurd (show (-1 : Int64) < lN 0 by decide) (by first | exact hz10 | exact fun zz => zz hz10))
  refine r_iconst (q := 124) C ((-1)) dX8_ticket_123 (by decide) rfl ?_
  exact r_iret C rfl (by decide) (by decide) dX8_ticket_124 ⟨rfl, ⟨ad, _, _, _, _, wd_eq, hks.kept (fun t _ _ => (by simp only [wd_set]; rw [if_neg (by omega)])), ((wd_ne (by decide)).trans h3), ((wd_ne (by decide)).trans h4), ((wd_ne (by decide)).trans h5), ((wd_ne (by decide)).trans h6), ((wd_ne (by decide)).trans h7), ((wd_ne (by decide)).trans h8), ((wd_ne (by decide)).trans h9), ((wd_ne (by decide)).trans h10), hsc.kept (fun t _ _ => (by simp only [wd_set]; rw [if_neg (by omega)])), ((wd_ne (by decide)).trans h16), ((wd_ne (by decide)).trans h17)⟩, fun t ht => (by simp only [wd_set]; rw [if_neg (by omega)])⟩

set_option maxHeartbeats 4000000 in
set_option maxRecDepth 20000 in
theorem y_tk_t {l : Launch} {g : cx_G} {w : wd_T} {c m0 tk gN rN tN : Nat} {fl : Int32} {fn wn : Nat → Nat} {gp by9 rD tD tV tT : Nat → Int32} (hM : MdAt g w m0 fl tk gN rN tN fn wn gp by9 rD tD tV tT) (hI : Iv9 c tk gN rN tN fn wn by9 tD tV tT) {vh kd gr sc ps : Nat} (h1v : vh ≤ 99) (h2v : kd ≤ 9) (h3v : gr ≤ 1000000000) (h6v : sc ≤ 8000000000) (h7v : ps ≤ 999) {tr : Int64} (ht1 : ¬ tr = -1) (ht2 : ¬ ok9 (nI 4) tr) : Mt l g yX8_ticket cX8_ticket 15 (some .int) 5 0 0 w [.ref m0, .int (nI vh), .int (nI kd), .long (lN gr), .long tr, .long (lN sc), .int (nI ps)] (fun v w' => v = some (.int (-1)) ∧ MdAt g w' m0 (nI 0) tk gN rN tN fn wn gp by9 rD tD tV tT ∧ Fm w w') := by
  refine mt_of RX8 "ticket" rfl rfl (by decide) (Nat.le_of_ble_eq_true rfl) [(0, .ref m0), (1, .int (nI vh)), (2, .int (nI kd)), (3, .long (lN gr)), (5, .long tr), (7, .long (lN sc)), (9, .int (nI ps))] rfl ?_
  intro k hkl C hin
  subst hkl
  obtain ⟨ad, rS, fS, lv, fo, h0, hks, h3, h4, h5, h6, h7, h8, h9, h10, hsc, h16, h17⟩ := id hM
  obtain ⟨i0, i1, i2, i3, i4, i5, i6, i7, i8, i9, i10⟩ := id hI
  have hp1 : cb9 1 := by unfold cb9; omega
  have hp2 : cb9 2 := by unfold cb9; omega
  have hp3 : cb9 3 := by unfold cb9; omega
  have hp4 : cb9 4 := by unfold cb9; omega
  have hp6 : cb9 6 := by unfold cb9; omega
  have hp7 : cb9 7 := by unfold cb9; omega
  refine r_aload_n (q := 1) C 0 dX8_ticket_0 rfl rfl ?_
  refine r_iconst (q := 2) C (nI 0) dX8_ticket_1 (by decide) rfl ?_
  refine r_put (q := 5) (t := 0) (w' := wd_set w 0 m0 (mo ad (nI tN) (nI tk) (nI (tk + gN)) (nI gN) (nI rN) (nI 0) rS fS)) C koX8 h0 15 (by decide) q715 rfl rfl rfl rfl (Nat.le_of_ble_eq_true rfl) dX8_ticket_2 rfl rfl ?_
  refine r_iconst (q := 6) C (nI 1) dX8_ticket_5 (by decide) rfl ?_
  refine r_iload_n (q := 7) C 1 dX8_ticket_6 rfl rfl ?_
  refine r_i2l (q := 8) C dX8_ticket_7 rfl ?_
  refine r_tl (show ((nI vh).toInt64 : Int64) = lN vh from nI_l (by omega)) ?_
  refine r_callS (q := 11) (As := [.int (nI 1), .long (lN vh)]) (st := []) C (m_cb_y (f := 1) (n := vh) hp1 h1v) q796 q794 q795 q9 ⟨by decide, by decide⟩ (show (parseMethodDescriptor yX8_canBe.desc).map (fun d => d.parameters.length) = some 2 by decide +kernel) (by decide) (by decide) (by decide) (by decide) (Nat.le_of_ble_eq_true rfl) rfl dX8_ticket_8 rfl ?_
  rintro v9 w1 ⟨rfl, rfl⟩
  show V g k 15 (wd_set w 0 m0 (mo ad (nI tN) (nI tk) (nI (tk + gN)) (nI gN) (nI rN) (nI 0) rS fS)) 0 0 (kQ g k (fun v w' => v = some (.int (-1)) ∧ MdAt g w' m0 (nI 0) tk gN rN tN fn wn gp by9 rD tD tV tT ∧ Fm w w') 0 0) 11 [(0, .ref m0), (1, .int (nI vh)), (2, .int (nI kd)), (3, .long (lN gr)), (5, .long tr), (7, .long (lN sc)), (9, .int (nI ps))] [.int (nI 1)]
  refine r_if_eq_f (q := 14) (tgt := 70) C dX8_ticket_11 (by decide) rfl (by decide) ?_
  refine r_iconst (q := 15) C (nI 2) dX8_ticket_14 (by decide) rfl ?_
  refine r_iload_n (q := 16) C 2 dX8_ticket_15 rfl rfl ?_
  refine r_i2l (q := 17) C dX8_ticket_16 rfl ?_
  refine r_tl (show ((nI kd).toInt64 : Int64) = lN kd from nI_l (by omega)) ?_
  refine r_callS (q := 20) (As := [.int (nI 2), .long (lN kd)]) (st := []) C (m_cb_y (f := 2) (n := kd) hp2 h2v) q796 q794 q795 q9 ⟨by decide, by decide⟩ (show (parseMethodDescriptor yX8_canBe.desc).map (fun d => d.parameters.length) = some 2 by decide +kernel) (by decide) (by decide) (by decide) (by decide) (Nat.le_of_ble_eq_true rfl) rfl dX8_ticket_17 rfl ?_
  rintro v9 w2 ⟨rfl, rfl⟩
  show V g k 15 (wd_set w 0 m0 (mo ad (nI tN) (nI tk) (nI (tk + gN)) (nI gN) (nI rN) (nI 0) rS fS)) 0 0 (kQ g k (fun v w' => v = some (.int (-1)) ∧ MdAt g w' m0 (nI 0) tk gN rN tN fn wn gp by9 rD tD tV tT ∧ Fm w w') 0 0) 20 [(0, .ref m0), (1, .int (nI vh)), (2, .int (nI kd)), (3, .long (lN gr)), (5, .long tr), (7, .long (lN sc)), (9, .int (nI ps))] [.int (nI 1)]
  refine r_if_eq_f (q := 23) (tgt := 70) C dX8_ticket_20 (by decide) rfl (by decide) ?_
  refine r_iconst (q := 24) C (nI 3) dX8_ticket_23 (by decide) rfl ?_
  refine r_lload_n (q := 25) C 3 dX8_ticket_24 rfl rfl ?_
  refine r_callS (q := 28) (As := [.int (nI 3), .long (lN gr)]) (st := []) C (m_cb_y (f := 3) (n := gr) hp3 h3v) q796 q794 q795 q9 ⟨by decide, by decide⟩ (show (parseMethodDescriptor yX8_canBe.desc).map (fun d => d.parameters.length) = some 2 by decide +kernel) (by decide) (by decide) (by decide) (by decide) (Nat.le_of_ble_eq_true rfl) rfl dX8_ticket_25 rfl ?_
  rintro v9 w3 ⟨rfl, rfl⟩
  show V g k 15 (wd_set w 0 m0 (mo ad (nI tN) (nI tk) (nI (tk + gN)) (nI gN) (nI rN) (nI 0) rS fS)) 0 0 (kQ g k (fun v w' => v = some (.int (-1)) ∧ MdAt g w' m0 (nI 0) tk gN rN tN fn wn gp by9 rD tD tV tT ∧ Fm w w') 0 0) 28 [(0, .ref m0), (1, .int (nI vh)), (2, .int (nI kd)), (3, .long (lN gr)), (5, .long tr), (7, .long (lN sc)), (9, .int (nI ps))] [.int (nI 1)]
  refine r_if_eq_f (q := 31) (tgt := 70) C dX8_ticket_28 (by decide) rfl (by decide) ?_
  refine r_lload (q := 33) C 4 dX8_ticket_31 rfl rfl ?_
  refine r_ldc2 (q := 36) (v := (-1)) C dX8_ticket_33 q800 rfl ?_
  refine r_lcmp_eq (q := 37) (q2 := 40) (tgt := 49) C dX8_ticket_36 rfl dX8_ticket_37 (by decide) rfl (fun hz4 => absurd (ht1) (by first | exact hz4 | exact fun zz => zz hz4)) (fun _ => ?_)
  refine r_iconst (q := 41) C (nI 4) dX8_ticket_40 (by decide) rfl ?_
  refine r_lload (q := 43) C 4 dX8_ticket_41 rfl rfl ?_
  refine r_callS (q := 46) (As := [.int (nI 4), .long tr]) (st := []) C (m_cb_n ht2) q796 q794 q795 q9 ⟨by decide, by decide⟩ (show (parseMethodDescriptor yX8_canBe.desc).map (fun d => d.parameters.length) = some 2 by decide +kernel) (by decide) (by decide) (by decide) (by decide) (Nat.le_of_ble_eq_true rfl) rfl dX8_ticket_43 rfl ?_
  rintro v9 w5 ⟨rfl, rfl⟩
  show V g k 15 (wd_set w 0 m0 (mo ad (nI tN) (nI tk) (nI (tk + gN)) (nI gN) (nI rN) (nI 0) rS fS)) 0 0 (kQ g k (fun v w' => v = some (.int (-1)) ∧ MdAt g w' m0 (nI 0) tk gN rN tN fn wn gp by9 rD tD tV tT ∧ Fm w w') 0 0) 46 [(0, .ref m0), (1, .int (nI vh)), (2, .int (nI kd)), (3, .long (lN gr)), (5, .long tr), (7, .long (lN sc)), (9, .int (nI ps))] [.int (nI 0)]
  refine r_if_eq_t (tgt := 70) C dX8_ticket_46 (by decide) (by decide) ?_
  refine r_iconst (q := 71) C ((-1)) dX8_ticket_70 (by decide) rfl ?_
  exact r_iret C rfl (by decide) (by decide) dX8_ticket_71 ⟨rfl, ⟨ad, _, _, _, _, wd_eq, hks.kept (fun t _ _ => (by simp only [wd_set]; rw [if_neg (by omega)])), ((wd_ne (by decide)).trans h3), ((wd_ne (by decide)).trans h4), ((wd_ne (by decide)).trans h5), ((wd_ne (by decide)).trans h6), ((wd_ne (by decide)).trans h7), ((wd_ne (by decide)).trans h8), ((wd_ne (by decide)).trans h9), ((wd_ne (by decide)).trans h10), hsc.kept (fun t _ _ => (by simp only [wd_set]; rw [if_neg (by omega)])), ((wd_ne (by decide)).trans h16), ((wd_ne (by decide)).trans h17)⟩, fun t ht => (by simp only [wd_set]; rw [if_neg (by omega)])⟩

set_option maxHeartbeats 4000000 in
set_option maxRecDepth 20000 in
theorem y_tk_s {l : Launch} {g : cx_G} {w : wd_T} {c m0 tk gN rN tN : Nat} {fl : Int32} {fn wn : Nat → Nat} {gp by9 rD tD tV tT : Nat → Int32} (hM : MdAt g w m0 fl tk gN rN tN fn wn gp by9 rD tD tV tT) (hI : Iv9 c tk gN rN tN fn wn by9 tD tV tT) {vh kd gr sc ps : Nat} (h1v : vh ≤ 99) (h2v : kd ≤ 9) (h3v : gr ≤ 1000000000) (h6v : sc ≤ 8000000000) (h7v : ps ≤ 999) {tr : Int64} {ta : Nat} (hta : ta ≤ 1000000000) (htr : tr = lN ta ∨ (tr = -1 ∧ ∃ k9, lu9 tD tV (nI (sc / 86400)) (nI vh) tN = some k9 ∧ tT k9 = nI ta)) (hg : gr < ta) : Mt l g yX8_ticket cX8_ticket 15 (some .int) 5 0 0 w [.ref m0, .int (nI vh), .int (nI kd), .long (lN gr), .long tr, .long (lN sc), .int (nI ps)] (fun v w' => v = some (.int (-2)) ∧ MdAt g w' m0 (nI 0) tk (gN + 1) rN tN fn wn (upd gp gN (nI (tk + gN))) by9 rD tD tV tT ∧ Fm w w') := by
  refine mt_of RX8 "ticket" rfl rfl (by decide) (Nat.le_of_ble_eq_true rfl) [(0, .ref m0), (1, .int (nI vh)), (2, .int (nI kd)), (3, .long (lN gr)), (5, .long tr), (7, .long (lN sc)), (9, .int (nI ps))] rfl ?_
  intro k hkl C hin
  subst hkl
  obtain ⟨ad, rS, fS, lv, fo, h0, hks, h3, h4, h5, h6, h7, h8, h9, h10, hsc, h16, h17⟩ := id hM
  obtain ⟨i0, i1, i2, i3, i4, i5, i6, i7, i8, i9, i10⟩ := id hI
  have hp1 : cb9 1 := by unfold cb9; omega
  have hp2 : cb9 2 := by unfold cb9; omega
  have hp3 : cb9 3 := by unfold cb9; omega
  have hp4 : cb9 4 := by unfold cb9; omega
  have hp6 : cb9 6 := by unfold cb9; omega
  have hp7 : cb9 7 := by unfold cb9; omega
  refine r_aload_n (q := 1) C 0 dX8_ticket_0 rfl rfl ?_
  refine r_iconst (q := 2) C (nI 0) dX8_ticket_1 (by decide) rfl ?_
  refine r_put (q := 5) (t := 0) (w' := wd_set w 0 m0 (mo ad (nI tN) (nI tk) (nI (tk + gN)) (nI gN) (nI rN) (nI 0) rS fS)) C koX8 h0 15 (by decide) q715 rfl rfl rfl rfl (Nat.le_of_ble_eq_true rfl) dX8_ticket_2 rfl rfl ?_
  refine r_iconst (q := 6) C (nI 1) dX8_ticket_5 (by decide) rfl ?_
  refine r_iload_n (q := 7) C 1 dX8_ticket_6 rfl rfl ?_
  refine r_i2l (q := 8) C dX8_ticket_7 rfl ?_
  refine r_tl (show ((nI vh).toInt64 : Int64) = lN vh from nI_l (by omega)) ?_
  refine r_callS (q := 11) (As := [.int (nI 1), .long (lN vh)]) (st := []) C (m_cb_y (f := 1) (n := vh) hp1 h1v) q796 q794 q795 q9 ⟨by decide, by decide⟩ (show (parseMethodDescriptor yX8_canBe.desc).map (fun d => d.parameters.length) = some 2 by decide +kernel) (by decide) (by decide) (by decide) (by decide) (Nat.le_of_ble_eq_true rfl) rfl dX8_ticket_8 rfl ?_
  rintro v9 w1 ⟨rfl, rfl⟩
  show V g k 15 (wd_set w 0 m0 (mo ad (nI tN) (nI tk) (nI (tk + gN)) (nI gN) (nI rN) (nI 0) rS fS)) 0 0 (kQ g k (fun v w' => v = some (.int (-2)) ∧ MdAt g w' m0 (nI 0) tk (gN + 1) rN tN fn wn (upd gp gN (nI (tk + gN))) by9 rD tD tV tT ∧ Fm w w') 0 0) 11 [(0, .ref m0), (1, .int (nI vh)), (2, .int (nI kd)), (3, .long (lN gr)), (5, .long tr), (7, .long (lN sc)), (9, .int (nI ps))] [.int (nI 1)]
  refine r_if_eq_f (q := 14) (tgt := 70) C dX8_ticket_11 (by decide) rfl (by decide) ?_
  refine r_iconst (q := 15) C (nI 2) dX8_ticket_14 (by decide) rfl ?_
  refine r_iload_n (q := 16) C 2 dX8_ticket_15 rfl rfl ?_
  refine r_i2l (q := 17) C dX8_ticket_16 rfl ?_
  refine r_tl (show ((nI kd).toInt64 : Int64) = lN kd from nI_l (by omega)) ?_
  refine r_callS (q := 20) (As := [.int (nI 2), .long (lN kd)]) (st := []) C (m_cb_y (f := 2) (n := kd) hp2 h2v) q796 q794 q795 q9 ⟨by decide, by decide⟩ (show (parseMethodDescriptor yX8_canBe.desc).map (fun d => d.parameters.length) = some 2 by decide +kernel) (by decide) (by decide) (by decide) (by decide) (Nat.le_of_ble_eq_true rfl) rfl dX8_ticket_17 rfl ?_
  rintro v9 w2 ⟨rfl, rfl⟩
  show V g k 15 (wd_set w 0 m0 (mo ad (nI tN) (nI tk) (nI (tk + gN)) (nI gN) (nI rN) (nI 0) rS fS)) 0 0 (kQ g k (fun v w' => v = some (.int (-2)) ∧ MdAt g w' m0 (nI 0) tk (gN + 1) rN tN fn wn (upd gp gN (nI (tk + gN))) by9 rD tD tV tT ∧ Fm w w') 0 0) 20 [(0, .ref m0), (1, .int (nI vh)), (2, .int (nI kd)), (3, .long (lN gr)), (5, .long tr), (7, .long (lN sc)), (9, .int (nI ps))] [.int (nI 1)]
  refine r_if_eq_f (q := 23) (tgt := 70) C dX8_ticket_20 (by decide) rfl (by decide) ?_
  refine r_iconst (q := 24) C (nI 3) dX8_ticket_23 (by decide) rfl ?_
  refine r_lload_n (q := 25) C 3 dX8_ticket_24 rfl rfl ?_
  refine r_callS (q := 28) (As := [.int (nI 3), .long (lN gr)]) (st := []) C (m_cb_y (f := 3) (n := gr) hp3 h3v) q796 q794 q795 q9 ⟨by decide, by decide⟩ (show (parseMethodDescriptor yX8_canBe.desc).map (fun d => d.parameters.length) = some 2 by decide +kernel) (by decide) (by decide) (by decide) (by decide) (Nat.le_of_ble_eq_true rfl) rfl dX8_ticket_25 rfl ?_
  rintro v9 w3 ⟨rfl, rfl⟩
  show V g k 15 (wd_set w 0 m0 (mo ad (nI tN) (nI tk) (nI (tk + gN)) (nI gN) (nI rN) (nI 0) rS fS)) 0 0 (kQ g k (fun v w' => v = some (.int (-2)) ∧ MdAt g w' m0 (nI 0) tk (gN + 1) rN tN fn wn (upd gp gN (nI (tk + gN))) by9 rD tD tV tT ∧ Fm w w') 0 0) 28 [(0, .ref m0), (1, .int (nI vh)), (2, .int (nI kd)), (3, .long (lN gr)), (5, .long tr), (7, .long (lN sc)), (9, .int (nI ps))] [.int (nI 1)]
  refine r_if_eq_f (q := 31) (tgt := 70) C dX8_ticket_28 (by decide) rfl (by decide) ?_
  refine r_lload (q := 33) C 4 dX8_ticket_31 rfl rfl ?_
  refine r_ldc2 (q := 36) (v := (-1)) C dX8_ticket_33 q800 rfl ?_
  have fin9 : V g k 15 (wd_set w 0 m0 (mo ad (nI tN) (nI tk) (nI (tk + gN)) (nI gN) (nI rN) (nI 0) rS fS)) 0 0 (kQ g k (fun v w' => v = some (.int (-2)) ∧ MdAt g w' m0 (nI 0) tk (gN + 1) rN tN fn wn (upd gp gN (nI (tk + gN))) by9 rD tD tV tT ∧ Fm w w') 0 0) 94 [(0, .ref m0), (1, .int (nI vh)), (2, .int (nI kd)), (3, .long (lN gr)), (5, .long tr), (7, .long (lN sc)), (9, .int (nI ps))] [.long (lN ta)] := by
    refine r_lstore (q := 96) (lv' := [(10, .long (lN ta)), (0, .ref m0), (1, .int (nI vh)), (2, .int (nI kd)), (3, .long (lN gr)), (5, .long tr), (7, .long (lN sc)), (9, .int (nI ps))]) C dX8_ticket_94 (by decide) rfl rfl ?_
    refine r_lload (q := 98) C 0 dX8_ticket_96 rfl rfl ?_
    refine r_lconst (q := 99) C (lN 0) dX8_ticket_98 (by decide) rfl ?_
    refine r_lcmp_lt (q := 100) (q2 := 103) (tgt := 123) C dX8_ticket_99 rfl dX8_ticket_100 (by decide) rfl (fun hz4 => absurd (fun z => absurd ((pk_lLT (a := ta) (b := 0) (by omega) (by omega)).mp z) (by omega)) (by first | exact hz4 | exact fun zz => zz hz4)) (fun _ => ?_)
    refine r_aload_n (q := 104) C 1 dX8_ticket_103 rfl rfl ?_
    refine r_get (q := 107) (t := 0) C koX8 wd_eq 14 (by decide) q714 rfl rfl dX8_ticket_104 rfl ?_
    refine r_sipush (q := 110) C (nI 200) dX8_ticket_107 (by decide) rfl ?_
    refine r_icmp_eq_f (q := 113) (tgt := 123) C dX8_ticket_110 (by decide) rfl (fun z => absurd ((nI_eq (a := rN) (b := 200) (by omega) (by omega)).mp z) (by omega)) ?_
    refine r_aload_n (q := 114) C 1 dX8_ticket_113 rfl rfl ?_
    refine r_get (q := 117) (t := 0) C koX8 wd_eq 9 (by decide) q709 rfl rfl dX8_ticket_114 rfl ?_
    refine r_sipush (q := 120) C (nI 400) dX8_ticket_117 (by decide) rfl ?_
    refine r_icmp_ne_t (tgt := 125) C dX8_ticket_120 (by decide) (fun z => absurd ((nI_eq (a := (tk + gN)) (b := 400) (by omega) (by omega)).mp z) (by omega)) ?_
    refine r_lload_n (q := 126) C 4 dX8_ticket_125 rfl rfl ?_
    refine r_lload (q := 128) C 0 dX8_ticket_126 rfl rfl ?_
    refine r_lcmp_ge (q := 129) (q2 := 132) (tgt := 168) C dX8_ticket_128 rfl dX8_ticket_129 (by decide) rfl (fun hz5 => absurd (fun z => absurd ((pk_lLE (a := ta) (b := gr) (by omega) (by omega)).mp z) (by omega)) (by first | exact hz5 | exact fun zz => zz hz5)) (fun _ => ?_)
    refine r_aload_n (q := 133) C 1 dX8_ticket_132 rfl rfl ?_
    refine r_get (q := 136) (t := 0) C koX8 wd_eq 10 (by decide) q710 rfl rfl dX8_ticket_133 rfl ?_
    refine r_aload_n (q := 137) C 1 dX8_ticket_136 rfl rfl ?_
    refine r_get (q := 140) (t := 0) C koX8 wd_eq 11 (by decide) q711 rfl rfl dX8_ticket_137 rfl ?_
    refine r_aload_n (q := 141) C 1 dX8_ticket_140 rfl rfl ?_
    refine r_get (q := 144) (t := 0) C koX8 wd_eq 9 (by decide) q709 rfl rfl dX8_ticket_141 rfl ?_
    refine r_iast (q := 145) (t := 8) (w' := wd_set (wd_set w 0 m0 (mo ad (nI tN) (nI tk) (nI (tk + gN)) (nI gN) (nI rN) (nI 0) rS fS)) 8 (ad 8) (aI g 400 (upd gp gN (nI (tk + gN))))) C ((wd_ne (by decide)).trans h8) gN rfl (by omega) (by decide) dX8_ticket_144 rfl rfl ?_
    refine r_aload_n (q := 146) C 1 dX8_ticket_145 rfl rfl ?_
    refine r_dup (q := 147) C dX8_ticket_146 rfl rfl ?_
    refine r_get (q := 150) (t := 0) C koX8 ((wd_ne (by decide)).trans wd_eq) 11 (by decide) q711 rfl rfl dX8_ticket_147 rfl ?_
    refine r_iconst (q := 151) C (nI 1) dX8_ticket_150 (by decide) rfl ?_
    refine r_iadd (q := 152) C dX8_ticket_151 rfl ?_
    refine r_ti (show ((nI gN) + (nI 1) : Int32) = nI (gN + 1) from nI_add gN 1) ?_
    refine r_put (q := 155) (t := 0) (w' := wd_set (wd_set w 8 (ad 8) (aI g 400 (upd gp gN (nI (tk + gN))))) 0 m0 (mo ad (nI tN) (nI tk) (nI (tk + gN)) (nI (gN + 1)) (nI rN) (nI 0) rS fS)) C koX8 ((wd_ne (by decide)).trans wd_eq) 11 (by decide) q711 rfl rfl rfl rfl (Nat.le_of_ble_eq_true rfl) dX8_ticket_152 rfl (wd_pp wd_ss (by decide)) ?_
    refine r_aload_n (q := 156) C 1 dX8_ticket_155 rfl rfl ?_
    refine r_dup (q := 157) C dX8_ticket_156 rfl rfl ?_
    refine r_get (q := 160) (t := 0) C koX8 wd_eq 9 (by decide) q709 rfl rfl dX8_ticket_157 rfl ?_
    refine r_iconst (q := 161) C (nI 1) dX8_ticket_160 (by decide) rfl ?_
    refine r_iadd (q := 162) C dX8_ticket_161 rfl ?_
    refine r_ti (show ((nI (tk + gN)) + (nI 1) : Int32) = nI (tk + gN + 1) from nI_add (tk + gN) 1) ?_
    refine r_put (q := 165) (t := 0) (w' := wd_set (wd_set w 8 (ad 8) (aI g 400 (upd gp gN (nI (tk + gN))))) 0 m0 (mo ad (nI tN) (nI tk) (nI (tk + gN + 1)) (nI (gN + 1)) (nI rN) (nI 0) rS fS)) C koX8 wd_eq 9 (by decide) q709 rfl rfl rfl rfl (Nat.le_of_ble_eq_true rfl) dX8_ticket_162 rfl wd_ss ?_
    refine r_bipush (q := 167) C ((-2)) dX8_ticket_165 (by decide) rfl ?_
    exact r_iret C rfl (by decide) (by decide) dX8_ticket_167 ⟨rfl, ⟨ad, _, _, _, _, wd_eq, hks.kept (fun t _ _ => (by simp only [wd_set]; rw [if_neg (by omega), if_neg (by omega)])), ((wd_ne (by decide)).trans ((wd_ne (by decide)).trans h3)), ((wd_ne (by decide)).trans ((wd_ne (by decide)).trans h4)), ((wd_ne (by decide)).trans ((wd_ne (by decide)).trans h5)), ((wd_ne (by decide)).trans ((wd_ne (by decide)).trans h6)), ((wd_ne (by decide)).trans ((wd_ne (by decide)).trans h7)), ((wd_ne (by decide)).trans wd_eq), ((wd_ne (by decide)).trans ((wd_ne (by decide)).trans h9)), ((wd_ne (by decide)).trans ((wd_ne (by decide)).trans h10)), hsc.kept (fun t _ _ => (by simp only [wd_set]; rw [if_neg (by omega), if_neg (by omega)])), ((wd_ne (by decide)).trans ((wd_ne (by decide)).trans h16)), ((wd_ne (by decide)).trans ((wd_ne (by decide)).trans h17))⟩, fun t ht => (by simp only [wd_set]; rw [if_neg (by omega), if_neg (by omega)])⟩
  rcases htr with rfl | ⟨rfl, k9, hk1, hk2⟩
  · refine r_lcmp_eq (q := 37) (q2 := 40) (tgt := 49) C dX8_ticket_36 rfl dX8_ticket_37 (by decide) rfl (fun hz6 => absurd (ne_m1 (n := ta) (by omega)) (by first | exact hz6 | exact fun zz => zz hz6)) (fun _ => ?_)
    refine r_iconst (q := 41) C (nI 4) dX8_ticket_40 (by decide) rfl ?_
    refine r_lload (q := 43) C 4 dX8_ticket_41 rfl rfl ?_
    refine r_callS (q := 46) (As := [.int (nI 4), .long (lN ta)]) (st := []) C (m_cb_y (f := 4) (n := ta) hp4 hta) q796 q794 q795 q9 ⟨by decide, by decide⟩ (show (parseMethodDescriptor yX8_canBe.desc).map (fun d => d.parameters.length) = some 2 by decide +kernel) (by decide) (by decide) (by decide) (by decide) (Nat.le_of_ble_eq_true rfl) rfl dX8_ticket_43 rfl ?_
    rintro v9 w7 ⟨rfl, rfl⟩
    show V g k 15 (wd_set w 0 m0 (mo ad (nI tN) (nI tk) (nI (tk + gN)) (nI gN) (nI rN) (nI 0) rS fS)) 0 0 (kQ g k (fun v w' => v = some (.int (-2)) ∧ MdAt g w' m0 (nI 0) tk (gN + 1) rN tN fn wn (upd gp gN (nI (tk + gN))) by9 rD tD tV tT ∧ Fm w w') 0 0) 46 [(0, .ref m0), (1, .int (nI vh)), (2, .int (nI kd)), (3, .long (lN gr)), (5, .long (lN ta)), (7, .long (lN sc)), (9, .int (nI ps))] [.int (nI 1)]
    refine r_if_eq_f (q := 49) (tgt := 70) C dX8_ticket_46 (by decide) rfl (by decide) ?_
    refine r_bipush (q := 51) C (nI 6) dX8_ticket_49 (by decide) rfl ?_
    refine r_lload (q := 53) C 5 dX8_ticket_51 rfl rfl ?_
    refine r_callS (q := 56) (As := [.int (nI 6), .long (lN sc)]) (st := []) C (m_cb_y (f := 6) (n := sc) hp6 h6v) q796 q794 q795 q9 ⟨by decide, by decide⟩ (show (parseMethodDescriptor yX8_canBe.desc).map (fun d => d.parameters.length) = some 2 by decide +kernel) (by decide) (by decide) (by decide) (by decide) (Nat.le_of_ble_eq_true rfl) rfl dX8_ticket_53 rfl ?_
    rintro v9 w8 ⟨rfl, rfl⟩
    show V g k 15 (wd_set w 0 m0 (mo ad (nI tN) (nI tk) (nI (tk + gN)) (nI gN) (nI rN) (nI 0) rS fS)) 0 0 (kQ g k (fun v w' => v = some (.int (-2)) ∧ MdAt g w' m0 (nI 0) tk (gN + 1) rN tN fn wn (upd gp gN (nI (tk + gN))) by9 rD tD tV tT ∧ Fm w w') 0 0) 56 [(0, .ref m0), (1, .int (nI vh)), (2, .int (nI kd)), (3, .long (lN gr)), (5, .long (lN ta)), (7, .long (lN sc)), (9, .int (nI ps))] [.int (nI 1)]
    refine r_if_eq_f (q := 59) (tgt := 70) C dX8_ticket_56 (by decide) rfl (by decide) ?_
    refine r_bipush (q := 61) C (nI 7) dX8_ticket_59 (by decide) rfl ?_
    refine r_iload (q := 63) C 6 dX8_ticket_61 rfl rfl ?_
    refine r_i2l (q := 64) C dX8_ticket_63 rfl ?_
    refine r_tl (show ((nI ps).toInt64 : Int64) = lN ps from nI_l (by omega)) ?_
    refine r_callS (q := 67) (As := [.int (nI 7), .long (lN ps)]) (st := []) C (m_cb_y (f := 7) (n := ps) hp7 h7v) q796 q794 q795 q9 ⟨by decide, by decide⟩ (show (parseMethodDescriptor yX8_canBe.desc).map (fun d => d.parameters.length) = some 2 by decide +kernel) (by decide) (by decide) (by decide) (by decide) (Nat.le_of_ble_eq_true rfl) rfl dX8_ticket_64 rfl ?_
    rintro v9 w9 ⟨rfl, rfl⟩
    show V g k 15 (wd_set w 0 m0 (mo ad (nI tN) (nI tk) (nI (tk + gN)) (nI gN) (nI rN) (nI 0) rS fS)) 0 0 (kQ g k (fun v w' => v = some (.int (-2)) ∧ MdAt g w' m0 (nI 0) tk (gN + 1) rN tN fn wn (upd gp gN (nI (tk + gN))) by9 rD tD tV tT ∧ Fm w w') 0 0) 67 [(0, .ref m0), (1, .int (nI vh)), (2, .int (nI kd)), (3, .long (lN gr)), (5, .long (lN ta)), (7, .long (lN sc)), (9, .int (nI ps))] [.int (nI 1)]
    refine r_if_ne_t (tgt := 72) C dX8_ticket_67 (by decide) (by decide) ?_
    refine r_lload (q := 74) C 4 dX8_ticket_72 rfl rfl ?_
    refine r_lconst (q := 75) C (lN 0) dX8_ticket_74 (by decide) rfl ?_
    refine r_lcmp_ge (q := 76) (q2 := 79) (tgt := 92) C dX8_ticket_75 rfl dX8_ticket_76 (by decide) rfl (fun _ => ?_) (fun hz10 => absurd ((pk_lLE (a := 0) (b := ta) (by omega) (by omega)).mpr (by omega)) (by first | exact hz10 | exact fun zz => zz hz10))
    refine r_lload (q := 94) C 4 dX8_ticket_92 rfl rfl ?_
    exact fin9
  · refine r_lcmp_eq (q := 37) (q2 := 40) (tgt := 49) C dX8_ticket_36 rfl dX8_ticket_37 (by decide) rfl (fun _ => ?_) (fun hz11 => absurd (rfl) (by first | exact hz11 | exact fun zz => zz hz11))
    refine r_bipush (q := 51) C (nI 6) dX8_ticket_49 (by decide) rfl ?_
    refine r_lload (q := 53) C 5 dX8_ticket_51 rfl rfl ?_
    refine r_callS (q := 56) (As := [.int (nI 6), .long (lN sc)]) (st := []) C (m_cb_y (f := 6) (n := sc) hp6 h6v) q796 q794 q795 q9 ⟨by decide, by decide⟩ (show (parseMethodDescriptor yX8_canBe.desc).map (fun d => d.parameters.length) = some 2 by decide +kernel) (by decide) (by decide) (by decide) (by decide) (Nat.le_of_ble_eq_true rfl) rfl dX8_ticket_53 rfl ?_
    rintro v9 w12 ⟨rfl, rfl⟩
    show V g k 15 (wd_set w 0 m0 (mo ad (nI tN) (nI tk) (nI (tk + gN)) (nI gN) (nI rN) (nI 0) rS fS)) 0 0 (kQ g k (fun v w' => v = some (.int (-2)) ∧ MdAt g w' m0 (nI 0) tk (gN + 1) rN tN fn wn (upd gp gN (nI (tk + gN))) by9 rD tD tV tT ∧ Fm w w') 0 0) 56 [(0, .ref m0), (1, .int (nI vh)), (2, .int (nI kd)), (3, .long (lN gr)), (5, .long (-1)), (7, .long (lN sc)), (9, .int (nI ps))] [.int (nI 1)]
    refine r_if_eq_f (q := 59) (tgt := 70) C dX8_ticket_56 (by decide) rfl (by decide) ?_
    refine r_bipush (q := 61) C (nI 7) dX8_ticket_59 (by decide) rfl ?_
    refine r_iload (q := 63) C 6 dX8_ticket_61 rfl rfl ?_
    refine r_i2l (q := 64) C dX8_ticket_63 rfl ?_
    refine r_tl (show ((nI ps).toInt64 : Int64) = lN ps from nI_l (by omega)) ?_
    refine r_callS (q := 67) (As := [.int (nI 7), .long (lN ps)]) (st := []) C (m_cb_y (f := 7) (n := ps) hp7 h7v) q796 q794 q795 q9 ⟨by decide, by decide⟩ (show (parseMethodDescriptor yX8_canBe.desc).map (fun d => d.parameters.length) = some 2 by decide +kernel) (by decide) (by decide) (by decide) (by decide) (Nat.le_of_ble_eq_true rfl) rfl dX8_ticket_64 rfl ?_
    rintro v9 w13 ⟨rfl, rfl⟩
    show V g k 15 (wd_set w 0 m0 (mo ad (nI tN) (nI tk) (nI (tk + gN)) (nI gN) (nI rN) (nI 0) rS fS)) 0 0 (kQ g k (fun v w' => v = some (.int (-2)) ∧ MdAt g w' m0 (nI 0) tk (gN + 1) rN tN fn wn (upd gp gN (nI (tk + gN))) by9 rD tD tV tT ∧ Fm w w') 0 0) 67 [(0, .ref m0), (1, .int (nI vh)), (2, .int (nI kd)), (3, .long (lN gr)), (5, .long (-1)), (7, .long (lN sc)), (9, .int (nI ps))] [.int (nI 1)]
    refine r_if_ne_t (tgt := 72) C dX8_ticket_67 (by decide) (by decide) ?_
    refine r_lload (q := 74) C 4 dX8_ticket_72 rfl rfl ?_
    refine r_lconst (q := 75) C (lN 0) dX8_ticket_74 (by decide) rfl ?_
    refine r_lcmp_ge (q := 76) (q2 := 79) (tgt := 92) C dX8_ticket_75 rfl dX8_ticket_76 (by decide) rfl (fun hz14 => absurd (show ¬ (lN 0 : Int64) ≤ -1 by decide) (by first | exact hz14 | exact fun zz => zz hz14)) (fun _ => ?_)
    refine r_aload_n (q := 80) C 0 dX8_ticket_79 rfl rfl ?_
    refine r_iload_n (q := 81) C 1 dX8_ticket_80 rfl rfl ?_
    refine r_lload (q := 83) C 5 dX8_ticket_81 rfl rfl ?_
    refine r_callS (q := 86) (As := [.long (lN sc)]) (st := [.int (nI vh), .ref m0]) C (m_dayOf h6v) q803 q801 q802 q9 ⟨by decide, by decide⟩ (show (parseMethodDescriptor yX8_dayOf.desc).map (fun d => d.parameters.length) = some 1 by decide +kernel) (by decide) (by decide) (by decide) (by decide) (Nat.le_of_ble_eq_true rfl) rfl dX8_ticket_83 rfl ?_
    rintro v9 w15 ⟨rfl, rfl⟩
    show V g k 15 (wd_set w 0 m0 (mo ad (nI tN) (nI tk) (nI (tk + gN)) (nI gN) (nI rN) (nI 0) rS fS)) 0 0 (kQ g k (fun v w' => v = some (.int (-2)) ∧ MdAt g w' m0 (nI 0) tk (gN + 1) rN tN fn wn (upd gp gN (nI (tk + gN))) by9 rD tD tV tT ∧ Fm w w') 0 0) 86 [(0, .ref m0), (1, .int (nI vh)), (2, .int (nI kd)), (3, .long (lN gr)), (5, .long (-1)), (7, .long (lN sc)), (9, .int (nI ps))] [.int (nI (sc / 86400)), .int (nI vh), .ref m0]
    refine r_callV (q := 89) (t := 0) (As := [.int (nI vh), .int (nI (sc / 86400))]) (st := []) C koX8 wd_eq (m_tar_y wd_eq ((wd_ne (by decide)).trans h3) ((wd_ne (by decide)).trans h4) ((wd_ne (by decide)).trans h5) (by omega) hk1) q808 q805 q807 qp17 q9 rfl ⟨by decide, by decide⟩ (show (parseMethodDescriptor yX8_tareOf.desc).map (fun d => d.parameters.length) = some 2 by decide +kernel) (by decide) (by decide) (by decide) (by decide) (Nat.le_of_ble_eq_true rfl) rfl dX8_ticket_86 rfl ?_
    rintro v9 w16 ⟨rfl, rfl⟩
    show V g k 15 (wd_set w 0 m0 (mo ad (nI tN) (nI tk) (nI (tk + gN)) (nI gN) (nI rN) (nI 0) rS fS)) 0 0 (kQ g k (fun v w' => v = some (.int (-2)) ∧ MdAt g w' m0 (nI 0) tk (gN + 1) rN tN fn wn (upd gp gN (nI (tk + gN))) by9 rD tD tV tT ∧ Fm w w') 0 0) 89 [(0, .ref m0), (1, .int (nI vh)), (2, .int (nI kd)), (3, .long (lN gr)), (5, .long (-1)), (7, .long (lN sc)), (9, .int (nI ps))] [.long ((tT k9).toInt64)]
    refine r_tl (show ((tT k9).toInt64 : Int64) = lN ta from by rw [hk2]; exact nI_l (by omega)) ?_
    refine r_goto (tgt := 94) C dX8_ticket_89 (by decide) ?_
    exact fin9

set_option maxHeartbeats 4000000 in
set_option maxRecDepth 20000 in
theorem y_tk_y {l : Launch} {g : cx_G} {w : wd_T} {c m0 tk gN rN tN : Nat} {fl : Int32} {fn wn : Nat → Nat} {gp by9 rD tD tV tT : Nat → Int32} (hM : MdAt g w m0 fl tk gN rN tN fn wn gp by9 rD tD tV tT) (hI : Iv9 c tk gN rN tN fn wn by9 tD tV tT) {vh kd gr sc ps : Nat} (h1v : vh ≤ 99) (h2v : kd ≤ 9) (h3v : gr ≤ 1000000000) (h6v : sc ≤ 8000000000) (h7v : ps ≤ 999) {tr : Int64} {ta : Nat} (hta : ta ≤ 1000000000) (htr : tr = lN ta ∨ (tr = -1 ∧ ∃ k9, lu9 tD tV (nI (sc / 86400)) (nI vh) tN = some k9 ∧ tT k9 = nI ta)) (hg : ta ≤ gr) (hfz : fn (9 * tk + 5) = 0) : Mt l g yX8_ticket cX8_ticket 15 (some .int) 5 0 0 w [.ref m0, .int (nI vh), .int (nI kd), .long (lN gr), .long tr, .long (lN sc), .int (nI ps)] (fun v w' => v = some (.int (nI tk)) ∧ MdAt g w' m0 (nI 0) (tk + 1) gN (rN + 1) tN (stF fn tk (nwL (tk + gN) vh kd gr ta sc ps)) wn gp (apR by9 rN (tkB (tk + gN) vh kd gr ta sc ps)) (upd rD rN (nI (sc / 86400))) tD tV tT ∧ Fm w w') := by
  refine mt_of RX8 "ticket" rfl rfl (by decide) (Nat.le_of_ble_eq_true rfl) [(0, .ref m0), (1, .int (nI vh)), (2, .int (nI kd)), (3, .long (lN gr)), (5, .long tr), (7, .long (lN sc)), (9, .int (nI ps))] rfl ?_
  intro k hkl C hin
  subst hkl
  obtain ⟨ad, rS, fS, lv, fo, h0, hks, h3, h4, h5, h6, h7, h8, h9, h10, hsc, h16, h17⟩ := id hM
  obtain ⟨i0, i1, i2, i3, i4, i5, i6, i7, i8, i9, i10⟩ := id hI
  have hp1 : cb9 1 := by unfold cb9; omega
  have hp2 : cb9 2 := by unfold cb9; omega
  have hp3 : cb9 3 := by unfold cb9; omega
  have hp4 : cb9 4 := by unfold cb9; omega
  have hp6 : cb9 6 := by unfold cb9; omega
  have hp7 : cb9 7 := by unfold cb9; omega
  refine r_aload_n (q := 1) C 0 dX8_ticket_0 rfl rfl ?_
  refine r_iconst (q := 2) C (nI 0) dX8_ticket_1 (by decide) rfl ?_
  refine r_put (q := 5) (t := 0) (w' := wd_set w 0 m0 (mo ad (nI tN) (nI tk) (nI (tk + gN)) (nI gN) (nI rN) (nI 0) rS fS)) C koX8 h0 15 (by decide) q715 rfl rfl rfl rfl (Nat.le_of_ble_eq_true rfl) dX8_ticket_2 rfl rfl ?_
  refine r_iconst (q := 6) C (nI 1) dX8_ticket_5 (by decide) rfl ?_
  refine r_iload_n (q := 7) C 1 dX8_ticket_6 rfl rfl ?_
  refine r_i2l (q := 8) C dX8_ticket_7 rfl ?_
  refine r_tl (show ((nI vh).toInt64 : Int64) = lN vh from nI_l (by omega)) ?_
  refine r_callS (q := 11) (As := [.int (nI 1), .long (lN vh)]) (st := []) C (m_cb_y (f := 1) (n := vh) hp1 h1v) q796 q794 q795 q9 ⟨by decide, by decide⟩ (show (parseMethodDescriptor yX8_canBe.desc).map (fun d => d.parameters.length) = some 2 by decide +kernel) (by decide) (by decide) (by decide) (by decide) (Nat.le_of_ble_eq_true rfl) rfl dX8_ticket_8 rfl ?_
  rintro v9 w1 ⟨rfl, rfl⟩
  show V g k 15 (wd_set w 0 m0 (mo ad (nI tN) (nI tk) (nI (tk + gN)) (nI gN) (nI rN) (nI 0) rS fS)) 0 0 (kQ g k (fun v w' => v = some (.int (nI tk)) ∧ MdAt g w' m0 (nI 0) (tk + 1) gN (rN + 1) tN (stF fn tk (nwL (tk + gN) vh kd gr ta sc ps)) wn gp (apR by9 rN (tkB (tk + gN) vh kd gr ta sc ps)) (upd rD rN (nI (sc / 86400))) tD tV tT ∧ Fm w w') 0 0) 11 [(0, .ref m0), (1, .int (nI vh)), (2, .int (nI kd)), (3, .long (lN gr)), (5, .long tr), (7, .long (lN sc)), (9, .int (nI ps))] [.int (nI 1)]
  refine r_if_eq_f (q := 14) (tgt := 70) C dX8_ticket_11 (by decide) rfl (by decide) ?_
  refine r_iconst (q := 15) C (nI 2) dX8_ticket_14 (by decide) rfl ?_
  refine r_iload_n (q := 16) C 2 dX8_ticket_15 rfl rfl ?_
  refine r_i2l (q := 17) C dX8_ticket_16 rfl ?_
  refine r_tl (show ((nI kd).toInt64 : Int64) = lN kd from nI_l (by omega)) ?_
  refine r_callS (q := 20) (As := [.int (nI 2), .long (lN kd)]) (st := []) C (m_cb_y (f := 2) (n := kd) hp2 h2v) q796 q794 q795 q9 ⟨by decide, by decide⟩ (show (parseMethodDescriptor yX8_canBe.desc).map (fun d => d.parameters.length) = some 2 by decide +kernel) (by decide) (by decide) (by decide) (by decide) (Nat.le_of_ble_eq_true rfl) rfl dX8_ticket_17 rfl ?_
  rintro v9 w2 ⟨rfl, rfl⟩
  show V g k 15 (wd_set w 0 m0 (mo ad (nI tN) (nI tk) (nI (tk + gN)) (nI gN) (nI rN) (nI 0) rS fS)) 0 0 (kQ g k (fun v w' => v = some (.int (nI tk)) ∧ MdAt g w' m0 (nI 0) (tk + 1) gN (rN + 1) tN (stF fn tk (nwL (tk + gN) vh kd gr ta sc ps)) wn gp (apR by9 rN (tkB (tk + gN) vh kd gr ta sc ps)) (upd rD rN (nI (sc / 86400))) tD tV tT ∧ Fm w w') 0 0) 20 [(0, .ref m0), (1, .int (nI vh)), (2, .int (nI kd)), (3, .long (lN gr)), (5, .long tr), (7, .long (lN sc)), (9, .int (nI ps))] [.int (nI 1)]
  refine r_if_eq_f (q := 23) (tgt := 70) C dX8_ticket_20 (by decide) rfl (by decide) ?_
  refine r_iconst (q := 24) C (nI 3) dX8_ticket_23 (by decide) rfl ?_
  refine r_lload_n (q := 25) C 3 dX8_ticket_24 rfl rfl ?_
  refine r_callS (q := 28) (As := [.int (nI 3), .long (lN gr)]) (st := []) C (m_cb_y (f := 3) (n := gr) hp3 h3v) q796 q794 q795 q9 ⟨by decide, by decide⟩ (show (parseMethodDescriptor yX8_canBe.desc).map (fun d => d.parameters.length) = some 2 by decide +kernel) (by decide) (by decide) (by decide) (by decide) (Nat.le_of_ble_eq_true rfl) rfl dX8_ticket_25 rfl ?_
  rintro v9 w3 ⟨rfl, rfl⟩
  show V g k 15 (wd_set w 0 m0 (mo ad (nI tN) (nI tk) (nI (tk + gN)) (nI gN) (nI rN) (nI 0) rS fS)) 0 0 (kQ g k (fun v w' => v = some (.int (nI tk)) ∧ MdAt g w' m0 (nI 0) (tk + 1) gN (rN + 1) tN (stF fn tk (nwL (tk + gN) vh kd gr ta sc ps)) wn gp (apR by9 rN (tkB (tk + gN) vh kd gr ta sc ps)) (upd rD rN (nI (sc / 86400))) tD tV tT ∧ Fm w w') 0 0) 28 [(0, .ref m0), (1, .int (nI vh)), (2, .int (nI kd)), (3, .long (lN gr)), (5, .long tr), (7, .long (lN sc)), (9, .int (nI ps))] [.int (nI 1)]
  refine r_if_eq_f (q := 31) (tgt := 70) C dX8_ticket_28 (by decide) rfl (by decide) ?_
  refine r_lload (q := 33) C 4 dX8_ticket_31 rfl rfl ?_
  refine r_ldc2 (q := 36) (v := (-1)) C dX8_ticket_33 q800 rfl ?_
  have fin9 : V g k 15 (wd_set w 0 m0 (mo ad (nI tN) (nI tk) (nI (tk + gN)) (nI gN) (nI rN) (nI 0) rS fS)) 0 0 (kQ g k (fun v w' => v = some (.int (nI tk)) ∧ MdAt g w' m0 (nI 0) (tk + 1) gN (rN + 1) tN (stF fn tk (nwL (tk + gN) vh kd gr ta sc ps)) wn gp (apR by9 rN (tkB (tk + gN) vh kd gr ta sc ps)) (upd rD rN (nI (sc / 86400))) tD tV tT ∧ Fm w w') 0 0) 94 [(0, .ref m0), (1, .int (nI vh)), (2, .int (nI kd)), (3, .long (lN gr)), (5, .long tr), (7, .long (lN sc)), (9, .int (nI ps))] [.long (lN ta)] := by
    refine r_lstore (q := 96) (lv' := [(10, .long (lN ta)), (0, .ref m0), (1, .int (nI vh)), (2, .int (nI kd)), (3, .long (lN gr)), (5, .long tr), (7, .long (lN sc)), (9, .int (nI ps))]) C dX8_ticket_94 (by decide) rfl rfl ?_
    refine r_lload (q := 98) C 0 dX8_ticket_96 rfl rfl ?_
    refine r_lconst (q := 99) C (lN 0) dX8_ticket_98 (by decide) rfl ?_
    refine r_lcmp_lt (q := 100) (q2 := 103) (tgt := 123) C dX8_ticket_99 rfl dX8_ticket_100 (by decide) rfl (fun hz4 => absurd (fun z => absurd ((pk_lLT (a := ta) (b := 0) (by omega) (by omega)).mp z) (by omega)) (by first | exact hz4 | exact fun zz => zz hz4)) (fun _ => ?_)
    refine r_aload_n (q := 104) C 1 dX8_ticket_103 rfl rfl ?_
    refine r_get (q := 107) (t := 0) C koX8 wd_eq 14 (by decide) q714 rfl rfl dX8_ticket_104 rfl ?_
    refine r_sipush (q := 110) C (nI 200) dX8_ticket_107 (by decide) rfl ?_
    refine r_icmp_eq_f (q := 113) (tgt := 123) C dX8_ticket_110 (by decide) rfl (fun z => absurd ((nI_eq (a := rN) (b := 200) (by omega) (by omega)).mp z) (by omega)) ?_
    refine r_aload_n (q := 114) C 1 dX8_ticket_113 rfl rfl ?_
    refine r_get (q := 117) (t := 0) C koX8 wd_eq 9 (by decide) q709 rfl rfl dX8_ticket_114 rfl ?_
    refine r_sipush (q := 120) C (nI 400) dX8_ticket_117 (by decide) rfl ?_
    refine r_icmp_ne_t (tgt := 125) C dX8_ticket_120 (by decide) (fun z => absurd ((nI_eq (a := (tk + gN)) (b := 400) (by omega) (by omega)).mp z) (by omega)) ?_
    refine r_lload_n (q := 126) C 4 dX8_ticket_125 rfl rfl ?_
    refine r_lload (q := 128) C 0 dX8_ticket_126 rfl rfl ?_
    refine r_lcmp_ge (q := 129) (q2 := 132) (tgt := 168) C dX8_ticket_128 rfl dX8_ticket_129 (by decide) rfl (fun _ => ?_) (fun hz5 => absurd ((pk_lLE (a := ta) (b := gr) (by omega) (by omega)).mpr (by omega)) (by first | exact hz5 | exact fun zz => zz hz5))
    refine r_bipush (q := 170) C (nI 9) dX8_ticket_168 (by decide) rfl ?_
    refine r_aload_n (q := 171) C 1 dX8_ticket_170 rfl rfl ?_
    refine r_get (q := 174) (t := 0) C koX8 wd_eq 8 (by decide) q708 rfl rfl dX8_ticket_171 rfl ?_
    refine r_imul (q := 175) C dX8_ticket_174 rfl ?_
    refine r_ti (show ((nI 9) * (nI tk) : Int32) = nI (9 * tk) from pk_mul 9 tk) ?_
    refine r_istore (q := 177) (lv' := [(12, .int (nI (9 * tk))), (10, .long (lN ta)), (0, .ref m0), (1, .int (nI vh)), (2, .int (nI kd)), (3, .long (lN gr)), (5, .long tr), (7, .long (lN sc)), (9, .int (nI ps))]) C dX8_ticket_175 (by decide) rfl rfl ?_
    refine r_aload_n (q := 178) C 2 dX8_ticket_177 rfl rfl ?_
    refine r_get (q := 181) (t := 0) C koX8 wd_eq 6 (by decide) q706 rfl rfl dX8_ticket_178 rfl ?_
    refine r_iload (q := 183) C 0 dX8_ticket_181 rfl rfl ?_
    refine r_aload_n (q := 184) C 2 dX8_ticket_183 rfl rfl ?_
    refine r_get (q := 187) (t := 0) C koX8 wd_eq 9 (by decide) q709 rfl rfl dX8_ticket_184 rfl ?_
    refine r_i2l (q := 188) C dX8_ticket_187 rfl ?_
    refine r_tl (show ((nI (tk + gN)).toInt64 : Int64) = lN (tk + gN) from nI_l (by omega)) ?_
    refine r_last (q := 189) (t := 6) (w' := wd_set (wd_set w 0 m0 (mo ad (nI tN) (nI tk) (nI (tk + gN)) (nI gN) (nI rN) (nI 0) rS fS)) 6 (ad 6) (aL g 1800 (vp_updL (fun p => lN (fn p)) (9 * tk) (lN (tk + gN))))) C ((wd_ne (by decide)).trans h6) (9 * tk) rfl (by omega) (by decide) dX8_ticket_188 rfl rfl ?_
    refine r_aload_n (q := 190) C 2 dX8_ticket_189 rfl rfl ?_
    refine r_get (q := 193) (t := 0) C koX8 ((wd_ne (by decide)).trans wd_eq) 6 (by decide) q706 rfl rfl dX8_ticket_190 rfl ?_
    refine r_iload (q := 195) C 0 dX8_ticket_193 rfl rfl ?_
    refine r_iconst (q := 196) C (nI 1) dX8_ticket_195 (by decide) rfl ?_
    refine r_iadd (q := 197) C dX8_ticket_196 rfl ?_
    refine r_ti (show ((nI (9 * tk)) + (nI 1) : Int32) = nI (9 * tk + 1) from nI_add (9 * tk) 1) ?_
    refine r_iload_n (q := 198) C 3 dX8_ticket_197 rfl rfl ?_
    refine r_i2l (q := 199) C dX8_ticket_198 rfl ?_
    refine r_tl (show ((nI vh).toInt64 : Int64) = lN vh from nI_l (by omega)) ?_
    refine r_last (q := 200) (t := 6) (w' := wd_set (wd_set w 0 m0 (mo ad (nI tN) (nI tk) (nI (tk + gN)) (nI gN) (nI rN) (nI 0) rS fS)) 6 (ad 6) (aL g 1800 (vp_updL (vp_updL (fun p => lN (fn p)) (9 * tk) (lN (tk + gN))) (9 * tk + 1) (lN vh)))) C wd_eq (9 * tk + 1) rfl (by omega) (by decide) dX8_ticket_199 rfl wd_ss ?_
    refine r_aload_n (q := 201) C 2 dX8_ticket_200 rfl rfl ?_
    refine r_get (q := 204) (t := 0) C koX8 ((wd_ne (by decide)).trans wd_eq) 6 (by decide) q706 rfl rfl dX8_ticket_201 rfl ?_
    refine r_iload (q := 206) C 0 dX8_ticket_204 rfl rfl ?_
    refine r_iconst (q := 207) C (nI 2) dX8_ticket_206 (by decide) rfl ?_
    refine r_iadd (q := 208) C dX8_ticket_207 rfl ?_
    refine r_ti (show ((nI (9 * tk)) + (nI 2) : Int32) = nI (9 * tk + 2) from nI_add (9 * tk) 2) ?_
    refine r_iload_n (q := 209) C 4 dX8_ticket_208 rfl rfl ?_
    refine r_i2l (q := 210) C dX8_ticket_209 rfl ?_
    refine r_tl (show ((nI kd).toInt64 : Int64) = lN kd from nI_l (by omega)) ?_
    refine r_last (q := 211) (t := 6) (w' := wd_set (wd_set w 0 m0 (mo ad (nI tN) (nI tk) (nI (tk + gN)) (nI gN) (nI rN) (nI 0) rS fS)) 6 (ad 6) (aL g 1800 (vp_updL (vp_updL (vp_updL (fun p => lN (fn p)) (9 * tk) (lN (tk + gN))) (9 * tk + 1) (lN vh)) (9 * tk + 2) (lN kd)))) C wd_eq (9 * tk + 2) rfl (by omega) (by decide) dX8_ticket_210 rfl wd_ss ?_
    refine r_aload_n (q := 212) C 2 dX8_ticket_211 rfl rfl ?_
    refine r_get (q := 215) (t := 0) C koX8 ((wd_ne (by decide)).trans wd_eq) 6 (by decide) q706 rfl rfl dX8_ticket_212 rfl ?_
    refine r_iload (q := 217) C 0 dX8_ticket_215 rfl rfl ?_
    refine r_iconst (q := 218) C (nI 3) dX8_ticket_217 (by decide) rfl ?_
    refine r_iadd (q := 219) C dX8_ticket_218 rfl ?_
    refine r_ti (show ((nI (9 * tk)) + (nI 3) : Int32) = nI (9 * tk + 3) from nI_add (9 * tk) 3) ?_
    refine r_lload_n (q := 220) C 5 dX8_ticket_219 rfl rfl ?_
    refine r_last (q := 221) (t := 6) (w' := wd_set (wd_set w 0 m0 (mo ad (nI tN) (nI tk) (nI (tk + gN)) (nI gN) (nI rN) (nI 0) rS fS)) 6 (ad 6) (aL g 1800 (vp_updL (vp_updL (vp_updL (vp_updL (fun p => lN (fn p)) (9 * tk) (lN (tk + gN))) (9 * tk + 1) (lN vh)) (9 * tk + 2) (lN kd)) (9 * tk + 3) (lN gr)))) C wd_eq (9 * tk + 3) rfl (by omega) (by decide) dX8_ticket_220 rfl wd_ss ?_
    refine r_aload_n (q := 222) C 2 dX8_ticket_221 rfl rfl ?_
    refine r_get (q := 225) (t := 0) C koX8 ((wd_ne (by decide)).trans wd_eq) 6 (by decide) q706 rfl rfl dX8_ticket_222 rfl ?_
    refine r_iload (q := 227) C 0 dX8_ticket_225 rfl rfl ?_
    refine r_iconst (q := 228) C (nI 4) dX8_ticket_227 (by decide) rfl ?_
    refine r_iadd (q := 229) C dX8_ticket_228 rfl ?_
    refine r_ti (show ((nI (9 * tk)) + (nI 4) : Int32) = nI (9 * tk + 4) from nI_add (9 * tk) 4) ?_
    refine r_lload (q := 231) C 1 dX8_ticket_229 rfl rfl ?_
    refine r_last (q := 232) (t := 6) (w' := wd_set (wd_set w 0 m0 (mo ad (nI tN) (nI tk) (nI (tk + gN)) (nI gN) (nI rN) (nI 0) rS fS)) 6 (ad 6) (aL g 1800 (vp_updL (vp_updL (vp_updL (vp_updL (vp_updL (fun p => lN (fn p)) (9 * tk) (lN (tk + gN))) (9 * tk + 1) (lN vh)) (9 * tk + 2) (lN kd)) (9 * tk + 3) (lN gr)) (9 * tk + 4) (lN ta)))) C wd_eq (9 * tk + 4) rfl (by omega) (by decide) dX8_ticket_231 rfl wd_ss ?_
    refine r_aload_n (q := 233) C 2 dX8_ticket_232 rfl rfl ?_
    refine r_get (q := 236) (t := 0) C koX8 ((wd_ne (by decide)).trans wd_eq) 6 (by decide) q706 rfl rfl dX8_ticket_233 rfl ?_
    refine r_iload (q := 238) C 0 dX8_ticket_236 rfl rfl ?_
    refine r_bipush (q := 240) C (nI 6) dX8_ticket_238 (by decide) rfl ?_
    refine r_iadd (q := 241) C dX8_ticket_240 rfl ?_
    refine r_ti (show ((nI (9 * tk)) + (nI 6) : Int32) = nI (9 * tk + 6) from nI_add (9 * tk) 6) ?_
    refine r_lload (q := 243) C 7 dX8_ticket_241 rfl rfl ?_
    refine r_last (q := 244) (t := 6) (w' := wd_set (wd_set w 0 m0 (mo ad (nI tN) (nI tk) (nI (tk + gN)) (nI gN) (nI rN) (nI 0) rS fS)) 6 (ad 6) (aL g 1800 (vp_updL (vp_updL (vp_updL (vp_updL (vp_updL (vp_updL (fun p => lN (fn p)) (9 * tk) (lN (tk + gN))) (9 * tk + 1) (lN vh)) (9 * tk + 2) (lN kd)) (9 * tk + 3) (lN gr)) (9 * tk + 4) (lN ta)) (9 * tk + 6) (lN sc)))) C wd_eq (9 * tk + 6) rfl (by omega) (by decide) dX8_ticket_243 rfl wd_ss ?_
    refine r_aload_n (q := 245) C 2 dX8_ticket_244 rfl rfl ?_
    refine r_get (q := 248) (t := 0) C koX8 ((wd_ne (by decide)).trans wd_eq) 6 (by decide) q706 rfl rfl dX8_ticket_245 rfl ?_
    refine r_iload (q := 250) C 0 dX8_ticket_248 rfl rfl ?_
    refine r_bipush (q := 252) C (nI 7) dX8_ticket_250 (by decide) rfl ?_
    refine r_iadd (q := 253) C dX8_ticket_252 rfl ?_
    refine r_ti (show ((nI (9 * tk)) + (nI 7) : Int32) = nI (9 * tk + 7) from nI_add (9 * tk) 7) ?_
    refine r_iload (q := 255) C 8 dX8_ticket_253 rfl rfl ?_
    refine r_i2l (q := 256) C dX8_ticket_255 rfl ?_
    refine r_tl (show ((nI ps).toInt64 : Int64) = lN ps from nI_l (by omega)) ?_
    refine r_last (q := 257) (t := 6) (w' := wd_set (wd_set w 0 m0 (mo ad (nI tN) (nI tk) (nI (tk + gN)) (nI gN) (nI rN) (nI 0) rS fS)) 6 (ad 6) (aL g 1800 (vp_updL (vp_updL (vp_updL (vp_updL (vp_updL (vp_updL (vp_updL (fun p => lN (fn p)) (9 * tk) (lN (tk + gN))) (9 * tk + 1) (lN vh)) (9 * tk + 2) (lN kd)) (9 * tk + 3) (lN gr)) (9 * tk + 4) (lN ta)) (9 * tk + 6) (lN sc)) (9 * tk + 7) (lN ps)))) C wd_eq (9 * tk + 7) rfl (by omega) (by decide) dX8_ticket_256 rfl wd_ss ?_
    refine r_aload_n (q := 258) C 2 dX8_ticket_257 rfl rfl ?_
    refine r_get (q := 261) (t := 0) C koX8 ((wd_ne (by decide)).trans wd_eq) 6 (by decide) q706 rfl rfl dX8_ticket_258 rfl ?_
    refine r_iload (q := 263) C 0 dX8_ticket_261 rfl rfl ?_
    refine r_bipush (q := 265) C (nI 8) dX8_ticket_263 (by decide) rfl ?_
    refine r_iadd (q := 266) C dX8_ticket_265 rfl ?_
    refine r_ti (show ((nI (9 * tk)) + (nI 8) : Int32) = nI (9 * tk + 8) from nI_add (9 * tk) 8) ?_
    refine r_lconst (q := 267) C (lN 0) dX8_ticket_266 (by decide) rfl ?_
    refine r_last (q := 268) (t := 6) (w' := wd_set (wd_set w 0 m0 (mo ad (nI tN) (nI tk) (nI (tk + gN)) (nI gN) (nI rN) (nI 0) rS fS)) 6 (ad 6) (aL g 1800 (vp_updL (vp_updL (vp_updL (vp_updL (vp_updL (vp_updL (vp_updL (vp_updL (fun p => lN (fn p)) (9 * tk) (lN (tk + gN))) (9 * tk + 1) (lN vh)) (9 * tk + 2) (lN kd)) (9 * tk + 3) (lN gr)) (9 * tk + 4) (lN ta)) (9 * tk + 6) (lN sc)) (9 * tk + 7) (lN ps)) (9 * tk + 8) (lN 0)))) C wd_eq (9 * tk + 8) rfl (by omega) (by decide) dX8_ticket_267 rfl wd_ss ?_
    refine r_aload_n (q := 269) C 2 dX8_ticket_268 rfl rfl ?_
    refine r_dup (q := 270) C dX8_ticket_269 rfl rfl ?_
    refine r_get (q := 273) (t := 0) C koX8 ((wd_ne (by decide)).trans wd_eq) 9 (by decide) q709 rfl rfl dX8_ticket_270 rfl ?_
    refine r_iconst (q := 274) C (nI 1) dX8_ticket_273 (by decide) rfl ?_
    refine r_iadd (q := 275) C dX8_ticket_274 rfl ?_
    refine r_ti (show ((nI (tk + gN)) + (nI 1) : Int32) = nI (tk + gN + 1) from nI_add (tk + gN) 1) ?_
    refine r_put (q := 278) (t := 0) (w' := wd_set (wd_set w 6 (ad 6) (aL g 1800 (vp_updL (vp_updL (vp_updL (vp_updL (vp_updL (vp_updL (vp_updL (vp_updL (fun p => lN (fn p)) (9 * tk) (lN (tk + gN))) (9 * tk + 1) (lN vh)) (9 * tk + 2) (lN kd)) (9 * tk + 3) (lN gr)) (9 * tk + 4) (lN ta)) (9 * tk + 6) (lN sc)) (9 * tk + 7) (lN ps)) (9 * tk + 8) (lN 0)))) 0 m0 (mo ad (nI tN) (nI tk) (nI (tk + gN + 1)) (nI gN) (nI rN) (nI 0) rS fS)) C koX8 ((wd_ne (by decide)).trans wd_eq) 9 (by decide) q709 rfl rfl rfl rfl (Nat.le_of_ble_eq_true rfl) dX8_ticket_275 rfl (wd_pp wd_ss (by decide)) ?_
    have eF : vp_updL (vp_updL (vp_updL (vp_updL (vp_updL (vp_updL (vp_updL (vp_updL (fun p => lN (fn p)) (9 * tk) (lN (tk + gN))) (9 * tk + 1) (lN vh)) (9 * tk + 2) (lN kd)) (9 * tk + 3) (lN gr)) (9 * tk + 4) (lN ta)) (9 * tk + 6) (lN sc)) (9 * tk + 7) (lN ps)) (9 * tk + 8) (lN 0) = fun p => lN (stF fn tk (nwL (tk + gN) vh kd gr ta sc ps) p) := by rw [upd_fn, upd_fn, upd_fn, upd_fn, upd_fn, upd_fn, upd_fn, upd_fn, nw_chain hfz]
    have v0 : stF fn tk (nwL (tk + gN) vh kd gr ta sc ps) (9 * tk) = tk + gN := stF_v (j := 0) (by decide)
    have v6 : stF fn tk (nwL (tk + gN) vh kd gr ta sc ps) (9 * tk + 6) = sc := stF_v (j := 6) (by decide)
    generalize hy6 : (wd_set (wd_set w 6 (ad 6) (aL g 1800 (vp_updL (vp_updL (vp_updL (vp_updL (vp_updL (vp_updL (vp_updL (vp_updL (fun p => lN (fn p)) (9 * tk) (lN (tk + gN))) (9 * tk + 1) (lN vh)) (9 * tk + 2) (lN kd)) (9 * tk + 3) (lN gr)) (9 * tk + 4) (lN ta)) (9 * tk + 6) (lN sc)) (9 * tk + 7) (lN ps)) (9 * tk + 8) (lN 0)))) 0 m0 (mo ad (nI tN) (nI tk) (nI (tk + gN + 1)) (nI gN) (nI rN) (nI 0) rS fS)) = y6w
    have y60 : y6w 0 = some (m0, mo ad (nI tN) (nI tk) (nI (tk + gN + 1)) (nI gN) (nI rN) (nI 0) rS fS) := by rw [← hy6]; exact wd_eq
    have y66 : y6w 6 = some (ad 6, aL g 1800 (fun p => lN (stF fn tk (nwL (tk + gN) vh kd gr ta sc ps) p))) := by rw [← hy6]; rw [← eF]; exact ((wd_ne (by decide)).trans wd_eq)
    have y63 : y6w 3 = some (ad 3, aI g 1100 tD) := by rw [← hy6]; exact ((wd_ne (by decide)).trans ((wd_ne (by decide)).trans h3))
    have y64 : y6w 4 = some (ad 4, aI g 1100 tV) := by rw [← hy6]; exact ((wd_ne (by decide)).trans ((wd_ne (by decide)).trans h4))
    have y65 : y6w 5 = some (ad 5, aI g 1100 tT) := by rw [← hy6]; exact ((wd_ne (by decide)).trans ((wd_ne (by decide)).trans h5))
    have y67 : y6w 7 = some (ad 7, aI g 1600 (fun p => nI (wn p))) := by rw [← hy6]; exact ((wd_ne (by decide)).trans ((wd_ne (by decide)).trans h7))
    have y68 : y6w 8 = some (ad 8, aI g 400 gp) := by rw [← hy6]; exact ((wd_ne (by decide)).trans ((wd_ne (by decide)).trans h8))
    have y69 : y6w 9 = some (ad 9, aB g 14600 by9) := by rw [← hy6]; exact ((wd_ne (by decide)).trans ((wd_ne (by decide)).trans h9))
    have y610 : y6w 10 = some (ad 10, aI g 200 rD) := by rw [← hy6]; exact ((wd_ne (by decide)).trans ((wd_ne (by decide)).trans h10))
    have y616 : y6w 16 = some (ad 16, aB g 6400 lv) := by rw [← hy6]; exact ((wd_ne (by decide)).trans ((wd_ne (by decide)).trans h16))
    have y617 : y6w 17 = some (ad 17, aB g 120 fo) := by rw [← hy6]; exact ((wd_ne (by decide)).trans ((wd_ne (by decide)).trans h17))
    have kf : ∀ t, t ≠ 0 → t ≠ 6 → y6w t = w t := fun t a b => by rw [← hy6]; simp only [wd_set, if_neg a, if_neg b]
    refine r_aload_n (q := 279) C 2 dX8_ticket_278 rfl rfl ?_
    refine r_iconst (q := 280) C (nI 1) dX8_ticket_279 (by decide) rfl ?_
    refine r_aload_n (q := 281) C 2 dX8_ticket_280 rfl rfl ?_
    refine r_get (q := 284) (t := 0) C koX8 y60 8 (by decide) q708 rfl rfl dX8_ticket_281 rfl ?_
    refine r_callV (q := 287) (t := 0) (As := [.int (nI 1), .int (nI tk)]) (st := []) C koX8 y60 (m_open (fn := stF fn tk (nwL (tk + gN) vh kd gr ta sc ps)) y60 y66 y69 (by omega) (by decide) (by omega) (by rw [v0]; omega)) q812 q809 q811 qp18 q9 rfl ⟨by decide, by decide⟩ (show (parseMethodDescriptor yX8_open.desc).map (fun d => d.parameters.length) = some 2 by decide +kernel) (by decide) (by decide) (by decide) (by decide) (Nat.le_of_ble_eq_true rfl) rfl dX8_ticket_284 rfl ?_
    rintro v9 w9 ⟨rfl, v79, of8⟩
    show V g k 15 w9 0 0 (kQ g k (fun v w' => v = some (.int (nI tk)) ∧ MdAt g w' m0 (nI 0) (tk + 1) gN (rN + 1) tN (stF fn tk (nwL (tk + gN) vh kd gr ta sc ps)) wn gp (apR by9 rN (tkB (tk + gN) vh kd gr ta sc ps)) (upd rD rN (nI (sc / 86400))) tD tV tT ∧ Fm w w') 0 0) 287 [(12, .int (nI (9 * tk))), (10, .long (lN ta)), (0, .ref m0), (1, .int (nI vh)), (2, .int (nI kd)), (3, .long (lN gr)), (5, .long tr), (7, .long (lN sc)), (9, .int (nI ps))] [.int (nI (73 * rN + 1 + 4))]
    refine r_ti (show (nI (73 * rN + 1 + 4) : Int32) = nI (73 * rN + 5) from by rw [show 73 * rN + 1 + 4 = 73 * rN + 5 by omega]) ?_
    refine r_istore (q := 289) (lv' := [(13, .int (nI (73 * rN + 5))), (12, .int (nI (9 * tk))), (10, .long (lN ta)), (0, .ref m0), (1, .int (nI vh)), (2, .int (nI kd)), (3, .long (lN gr)), (5, .long tr), (7, .long (lN sc)), (9, .int (nI ps))]) C dX8_ticket_287 (by decide) rfl rfl ?_
    refine r_aload_n (q := 290) C 3 dX8_ticket_289 rfl rfl ?_
    refine r_iload (q := 292) C 0 dX8_ticket_290 rfl rfl ?_
    refine r_iload_n (q := 293) C 4 dX8_ticket_292 rfl rfl ?_
    refine r_i2l (q := 294) C dX8_ticket_293 rfl ?_
    refine r_tl (show ((nI vh).toInt64 : Int64) = lN vh from nI_l (by omega)) ?_
    refine r_iconst (q := 295) C (nI 4) dX8_ticket_294 (by decide) rfl ?_
    refine r_callV (q := 298) (t := 0) (As := [.int (nI (73 * rN + 5)), .long (lN vh), .int (nI 4)]) (st := []) C koX8 ((of8 0 (by omega)).trans y60) (m_write ((of8 0 (by omega)).trans y60) v79 (x := vh) (a := 73 * rN + 5) (wd := 4) (by omega) (by decide) (by decide) (by omega)) q816 q813 q815 qp19 q9 rfl ⟨by decide, by decide⟩ (show (parseMethodDescriptor yX8_write.desc).map (fun d => d.parameters.length) = some 3 by decide +kernel) (by decide) (by decide) (by decide) (by decide) (Nat.le_of_ble_eq_true rfl) rfl dX8_ticket_295 rfl ?_
    rintro v9 w13 ⟨rfl, v119', of12⟩
    show V g k 15 w13 0 0 (kQ g k (fun v w' => v = some (.int (nI tk)) ∧ MdAt g w' m0 (nI 0) (tk + 1) gN (rN + 1) tN (stF fn tk (nwL (tk + gN) vh kd gr ta sc ps)) wn gp (apR by9 rN (tkB (tk + gN) vh kd gr ta sc ps)) (upd rD rN (nI (sc / 86400))) tD tV tT ∧ Fm w w') 0 0) 298 [(13, .int (nI (73 * rN + 5))), (12, .int (nI (9 * tk))), (10, .long (lN ta)), (0, .ref m0), (1, .int (nI vh)), (2, .int (nI kd)), (3, .long (lN gr)), (5, .long tr), (7, .long (lN sc)), (9, .int (nI ps))] [.int (nI (73 * rN + 5 + 4))]
    have v119 : w13 9 = some (ad 9, aB g 14600 (ovF by9 (73 * rN) (wrF (wrF (wrF (fun _ => 0) 0 1 1 (lN 1)) 1 4 4 (lN ((stF fn tk (nwL (tk + gN) vh kd gr ta sc ps)) (9 * tk)))) 5 4 4 (lN vh)))) := by rw [← wr_ov (by decide)]; exact v119'
    refine r_ti (show (nI (73 * rN + 5 + 4) : Int32) = nI (73 * rN + 9) from by rw [show 73 * rN + 5 + 4 = 73 * rN + 9 by omega]) ?_
    refine r_istore (q := 300) (lv' := [(13, .int (nI (73 * rN + 9))), (12, .int (nI (9 * tk))), (10, .long (lN ta)), (0, .ref m0), (1, .int (nI vh)), (2, .int (nI kd)), (3, .long (lN gr)), (5, .long tr), (7, .long (lN sc)), (9, .int (nI ps))]) C dX8_ticket_298 (by decide) rfl rfl ?_
    refine r_aload_n (q := 301) C 3 dX8_ticket_300 rfl rfl ?_
    refine r_iload (q := 303) C 0 dX8_ticket_301 rfl rfl ?_
    refine r_iload_n (q := 304) C 5 dX8_ticket_303 rfl rfl ?_
    refine r_i2l (q := 305) C dX8_ticket_304 rfl ?_
    refine r_tl (show ((nI kd).toInt64 : Int64) = lN kd from nI_l (by omega)) ?_
    refine r_iconst (q := 306) C (nI 4) dX8_ticket_305 (by decide) rfl ?_
    refine r_callV (q := 309) (t := 0) (As := [.int (nI (73 * rN + 9)), .long (lN kd), .int (nI 4)]) (st := []) C koX8 ((of12 0 (by omega)).trans ((of8 0 (by omega)).trans y60)) (m_write ((of12 0 (by omega)).trans ((of8 0 (by omega)).trans y60)) v119 (x := kd) (a := 73 * rN + 9) (wd := 4) (by omega) (by decide) (by decide) (by omega)) q816 q813 q815 qp19 q9 rfl ⟨by decide, by decide⟩ (show (parseMethodDescriptor yX8_write.desc).map (fun d => d.parameters.length) = some 3 by decide +kernel) (by decide) (by decide) (by decide) (by decide) (Nat.le_of_ble_eq_true rfl) rfl dX8_ticket_306 rfl ?_
    rintro v9 w17 ⟨rfl, v159', of16⟩
    show V g k 15 w17 0 0 (kQ g k (fun v w' => v = some (.int (nI tk)) ∧ MdAt g w' m0 (nI 0) (tk + 1) gN (rN + 1) tN (stF fn tk (nwL (tk + gN) vh kd gr ta sc ps)) wn gp (apR by9 rN (tkB (tk + gN) vh kd gr ta sc ps)) (upd rD rN (nI (sc / 86400))) tD tV tT ∧ Fm w w') 0 0) 309 [(13, .int (nI (73 * rN + 9))), (12, .int (nI (9 * tk))), (10, .long (lN ta)), (0, .ref m0), (1, .int (nI vh)), (2, .int (nI kd)), (3, .long (lN gr)), (5, .long tr), (7, .long (lN sc)), (9, .int (nI ps))] [.int (nI (73 * rN + 9 + 4))]
    have v159 : w17 9 = some (ad 9, aB g 14600 (ovF by9 (73 * rN) (wrF (wrF (wrF (wrF (fun _ => 0) 0 1 1 (lN 1)) 1 4 4 (lN ((stF fn tk (nwL (tk + gN) vh kd gr ta sc ps)) (9 * tk)))) 5 4 4 (lN vh)) 9 4 4 (lN kd)))) := by rw [← wr_ov (by decide)]; exact v159'
    refine r_ti (show (nI (73 * rN + 9 + 4) : Int32) = nI (73 * rN + 13) from by rw [show 73 * rN + 9 + 4 = 73 * rN + 13 by omega]) ?_
    refine r_istore (q := 311) (lv' := [(13, .int (nI (73 * rN + 13))), (12, .int (nI (9 * tk))), (10, .long (lN ta)), (0, .ref m0), (1, .int (nI vh)), (2, .int (nI kd)), (3, .long (lN gr)), (5, .long tr), (7, .long (lN sc)), (9, .int (nI ps))]) C dX8_ticket_309 (by decide) rfl rfl ?_
    refine r_aload_n (q := 312) C 3 dX8_ticket_311 rfl rfl ?_
    refine r_iload (q := 314) C 0 dX8_ticket_312 rfl rfl ?_
    refine r_lload_n (q := 315) C 6 dX8_ticket_314 rfl rfl ?_
    refine r_bipush (q := 317) C (nI 8) dX8_ticket_315 (by decide) rfl ?_
    refine r_callV (q := 320) (t := 0) (As := [.int (nI (73 * rN + 13)), .long (lN gr), .int (nI 8)]) (st := []) C koX8 ((of16 0 (by omega)).trans ((of12 0 (by omega)).trans ((of8 0 (by omega)).trans y60))) (m_write ((of16 0 (by omega)).trans ((of12 0 (by omega)).trans ((of8 0 (by omega)).trans y60))) v159 (x := gr) (a := 73 * rN + 13) (wd := 8) (by omega) (by decide) (by decide) (by omega)) q816 q813 q815 qp19 q9 rfl ⟨by decide, by decide⟩ (show (parseMethodDescriptor yX8_write.desc).map (fun d => d.parameters.length) = some 3 by decide +kernel) (by decide) (by decide) (by decide) (by decide) (Nat.le_of_ble_eq_true rfl) rfl dX8_ticket_317 rfl ?_
    rintro v9 w21 ⟨rfl, v199', of20⟩
    show V g k 15 w21 0 0 (kQ g k (fun v w' => v = some (.int (nI tk)) ∧ MdAt g w' m0 (nI 0) (tk + 1) gN (rN + 1) tN (stF fn tk (nwL (tk + gN) vh kd gr ta sc ps)) wn gp (apR by9 rN (tkB (tk + gN) vh kd gr ta sc ps)) (upd rD rN (nI (sc / 86400))) tD tV tT ∧ Fm w w') 0 0) 320 [(13, .int (nI (73 * rN + 13))), (12, .int (nI (9 * tk))), (10, .long (lN ta)), (0, .ref m0), (1, .int (nI vh)), (2, .int (nI kd)), (3, .long (lN gr)), (5, .long tr), (7, .long (lN sc)), (9, .int (nI ps))] [.int (nI (73 * rN + 13 + 8))]
    have v199 : w21 9 = some (ad 9, aB g 14600 (ovF by9 (73 * rN) (wrF (wrF (wrF (wrF (wrF (fun _ => 0) 0 1 1 (lN 1)) 1 4 4 (lN ((stF fn tk (nwL (tk + gN) vh kd gr ta sc ps)) (9 * tk)))) 5 4 4 (lN vh)) 9 4 4 (lN kd)) 13 8 8 (lN gr)))) := by rw [← wr_ov (by decide)]; exact v199'
    refine r_ti (show (nI (73 * rN + 13 + 8) : Int32) = nI (73 * rN + 21) from by rw [show 73 * rN + 13 + 8 = 73 * rN + 21 by omega]) ?_
    refine r_istore (q := 322) (lv' := [(13, .int (nI (73 * rN + 21))), (12, .int (nI (9 * tk))), (10, .long (lN ta)), (0, .ref m0), (1, .int (nI vh)), (2, .int (nI kd)), (3, .long (lN gr)), (5, .long tr), (7, .long (lN sc)), (9, .int (nI ps))]) C dX8_ticket_320 (by decide) rfl rfl ?_
    refine r_aload_n (q := 323) C 3 dX8_ticket_322 rfl rfl ?_
    refine r_iload (q := 325) C 0 dX8_ticket_323 rfl rfl ?_
    refine r_lload (q := 327) C 2 dX8_ticket_325 rfl rfl ?_
    refine r_bipush (q := 329) C (nI 8) dX8_ticket_327 (by decide) rfl ?_
    refine r_callV (q := 332) (t := 0) (As := [.int (nI (73 * rN + 21)), .long (lN ta), .int (nI 8)]) (st := []) C koX8 ((of20 0 (by omega)).trans ((of16 0 (by omega)).trans ((of12 0 (by omega)).trans ((of8 0 (by omega)).trans y60)))) (m_write ((of20 0 (by omega)).trans ((of16 0 (by omega)).trans ((of12 0 (by omega)).trans ((of8 0 (by omega)).trans y60)))) v199 (x := ta) (a := 73 * rN + 21) (wd := 8) (by omega) (by decide) (by decide) (by omega)) q816 q813 q815 qp19 q9 rfl ⟨by decide, by decide⟩ (show (parseMethodDescriptor yX8_write.desc).map (fun d => d.parameters.length) = some 3 by decide +kernel) (by decide) (by decide) (by decide) (by decide) (Nat.le_of_ble_eq_true rfl) rfl dX8_ticket_329 rfl ?_
    rintro v9 w25 ⟨rfl, v239', of24⟩
    show V g k 15 w25 0 0 (kQ g k (fun v w' => v = some (.int (nI tk)) ∧ MdAt g w' m0 (nI 0) (tk + 1) gN (rN + 1) tN (stF fn tk (nwL (tk + gN) vh kd gr ta sc ps)) wn gp (apR by9 rN (tkB (tk + gN) vh kd gr ta sc ps)) (upd rD rN (nI (sc / 86400))) tD tV tT ∧ Fm w w') 0 0) 332 [(13, .int (nI (73 * rN + 21))), (12, .int (nI (9 * tk))), (10, .long (lN ta)), (0, .ref m0), (1, .int (nI vh)), (2, .int (nI kd)), (3, .long (lN gr)), (5, .long tr), (7, .long (lN sc)), (9, .int (nI ps))] [.int (nI (73 * rN + 21 + 8))]
    have v239 : w25 9 = some (ad 9, aB g 14600 (ovF by9 (73 * rN) (wrF (wrF (wrF (wrF (wrF (wrF (fun _ => 0) 0 1 1 (lN 1)) 1 4 4 (lN ((stF fn tk (nwL (tk + gN) vh kd gr ta sc ps)) (9 * tk)))) 5 4 4 (lN vh)) 9 4 4 (lN kd)) 13 8 8 (lN gr)) 21 8 8 (lN ta)))) := by rw [← wr_ov (by decide)]; exact v239'
    refine r_ti (show (nI (73 * rN + 21 + 8) : Int32) = nI (73 * rN + 29) from by rw [show 73 * rN + 21 + 8 = 73 * rN + 29 by omega]) ?_
    refine r_istore (q := 334) (lv' := [(13, .int (nI (73 * rN + 29))), (12, .int (nI (9 * tk))), (10, .long (lN ta)), (0, .ref m0), (1, .int (nI vh)), (2, .int (nI kd)), (3, .long (lN gr)), (5, .long tr), (7, .long (lN sc)), (9, .int (nI ps))]) C dX8_ticket_332 (by decide) rfl rfl ?_
    refine r_aload_n (q := 335) C 3 dX8_ticket_334 rfl rfl ?_
    refine r_iload (q := 337) C 0 dX8_ticket_335 rfl rfl ?_
    refine r_lload (q := 339) C 8 dX8_ticket_337 rfl rfl ?_
    refine r_bipush (q := 341) C (nI 8) dX8_ticket_339 (by decide) rfl ?_
    refine r_callV (q := 344) (t := 0) (As := [.int (nI (73 * rN + 29)), .long (lN sc), .int (nI 8)]) (st := []) C koX8 ((of24 0 (by omega)).trans ((of20 0 (by omega)).trans ((of16 0 (by omega)).trans ((of12 0 (by omega)).trans ((of8 0 (by omega)).trans y60))))) (m_write ((of24 0 (by omega)).trans ((of20 0 (by omega)).trans ((of16 0 (by omega)).trans ((of12 0 (by omega)).trans ((of8 0 (by omega)).trans y60))))) v239 (x := sc) (a := 73 * rN + 29) (wd := 8) (by omega) (by decide) (by decide) (by omega)) q816 q813 q815 qp19 q9 rfl ⟨by decide, by decide⟩ (show (parseMethodDescriptor yX8_write.desc).map (fun d => d.parameters.length) = some 3 by decide +kernel) (by decide) (by decide) (by decide) (by decide) (Nat.le_of_ble_eq_true rfl) rfl dX8_ticket_341 rfl ?_
    rintro v9 w29 ⟨rfl, v279', of28⟩
    show V g k 15 w29 0 0 (kQ g k (fun v w' => v = some (.int (nI tk)) ∧ MdAt g w' m0 (nI 0) (tk + 1) gN (rN + 1) tN (stF fn tk (nwL (tk + gN) vh kd gr ta sc ps)) wn gp (apR by9 rN (tkB (tk + gN) vh kd gr ta sc ps)) (upd rD rN (nI (sc / 86400))) tD tV tT ∧ Fm w w') 0 0) 344 [(13, .int (nI (73 * rN + 29))), (12, .int (nI (9 * tk))), (10, .long (lN ta)), (0, .ref m0), (1, .int (nI vh)), (2, .int (nI kd)), (3, .long (lN gr)), (5, .long tr), (7, .long (lN sc)), (9, .int (nI ps))] [.int (nI (73 * rN + 29 + 8))]
    have v279 : w29 9 = some (ad 9, aB g 14600 (ovF by9 (73 * rN) (wrF (wrF (wrF (wrF (wrF (wrF (wrF (fun _ => 0) 0 1 1 (lN 1)) 1 4 4 (lN ((stF fn tk (nwL (tk + gN) vh kd gr ta sc ps)) (9 * tk)))) 5 4 4 (lN vh)) 9 4 4 (lN kd)) 13 8 8 (lN gr)) 21 8 8 (lN ta)) 29 8 8 (lN sc)))) := by rw [← wr_ov (by decide)]; exact v279'
    refine r_ti (show (nI (73 * rN + 29 + 8) : Int32) = nI (73 * rN + 37) from by rw [show 73 * rN + 29 + 8 = 73 * rN + 37 by omega]) ?_
    refine r_istore (q := 346) (lv' := [(13, .int (nI (73 * rN + 37))), (12, .int (nI (9 * tk))), (10, .long (lN ta)), (0, .ref m0), (1, .int (nI vh)), (2, .int (nI kd)), (3, .long (lN gr)), (5, .long tr), (7, .long (lN sc)), (9, .int (nI ps))]) C dX8_ticket_344 (by decide) rfl rfl ?_
    refine r_aload_n (q := 347) C 3 dX8_ticket_346 rfl rfl ?_
    refine r_iload (q := 349) C 0 dX8_ticket_347 rfl rfl ?_
    refine r_iload (q := 351) C 9 dX8_ticket_349 rfl rfl ?_
    refine r_i2l (q := 352) C dX8_ticket_351 rfl ?_
    refine r_tl (show ((nI ps).toInt64 : Int64) = lN ps from nI_l (by omega)) ?_
    refine r_iconst (q := 353) C (nI 4) dX8_ticket_352 (by decide) rfl ?_
    refine r_callV (q := 356) (t := 0) (As := [.int (nI (73 * rN + 37)), .long (lN ps), .int (nI 4)]) (st := []) C koX8 ((of28 0 (by omega)).trans ((of24 0 (by omega)).trans ((of20 0 (by omega)).trans ((of16 0 (by omega)).trans ((of12 0 (by omega)).trans ((of8 0 (by omega)).trans y60)))))) (m_write ((of28 0 (by omega)).trans ((of24 0 (by omega)).trans ((of20 0 (by omega)).trans ((of16 0 (by omega)).trans ((of12 0 (by omega)).trans ((of8 0 (by omega)).trans y60)))))) v279 (x := ps) (a := 73 * rN + 37) (wd := 4) (by omega) (by decide) (by decide) (by omega)) q816 q813 q815 qp19 q9 rfl ⟨by decide, by decide⟩ (show (parseMethodDescriptor yX8_write.desc).map (fun d => d.parameters.length) = some 3 by decide +kernel) (by decide) (by decide) (by decide) (by decide) (Nat.le_of_ble_eq_true rfl) rfl dX8_ticket_353 rfl ?_
    rintro v9 w33 ⟨rfl, v319', of32⟩
    show V g k 15 w33 0 0 (kQ g k (fun v w' => v = some (.int (nI tk)) ∧ MdAt g w' m0 (nI 0) (tk + 1) gN (rN + 1) tN (stF fn tk (nwL (tk + gN) vh kd gr ta sc ps)) wn gp (apR by9 rN (tkB (tk + gN) vh kd gr ta sc ps)) (upd rD rN (nI (sc / 86400))) tD tV tT ∧ Fm w w') 0 0) 356 [(13, .int (nI (73 * rN + 37))), (12, .int (nI (9 * tk))), (10, .long (lN ta)), (0, .ref m0), (1, .int (nI vh)), (2, .int (nI kd)), (3, .long (lN gr)), (5, .long tr), (7, .long (lN sc)), (9, .int (nI ps))] [.int (nI (73 * rN + 37 + 4))]
    have v319 : w33 9 = some (ad 9, aB g 14600 (ovF by9 (73 * rN) (wrF (wrF (wrF (wrF (wrF (wrF (wrF (wrF (fun _ => 0) 0 1 1 (lN 1)) 1 4 4 (lN ((stF fn tk (nwL (tk + gN) vh kd gr ta sc ps)) (9 * tk)))) 5 4 4 (lN vh)) 9 4 4 (lN kd)) 13 8 8 (lN gr)) 21 8 8 (lN ta)) 29 8 8 (lN sc)) 37 4 4 (lN ps)))) := by rw [← wr_ov (by decide)]; exact v319'
    refine r_ti (show (nI (73 * rN + 37 + 4) : Int32) = nI (73 * rN + 41) from by rw [show 73 * rN + 37 + 4 = 73 * rN + 41 by omega]) ?_
    refine r_istore (q := 358) (lv' := [(13, .int (nI (73 * rN + 41))), (12, .int (nI (9 * tk))), (10, .long (lN ta)), (0, .ref m0), (1, .int (nI vh)), (2, .int (nI kd)), (3, .long (lN gr)), (5, .long tr), (7, .long (lN sc)), (9, .int (nI ps))]) C dX8_ticket_356 (by decide) rfl rfl ?_
    refine r_aload_n (q := 359) C 3 dX8_ticket_358 rfl rfl ?_
    refine r_aload_n (q := 360) C 3 dX8_ticket_359 rfl rfl ?_
    refine r_get (q := 363) (t := 0) C koX8 ((of32 0 (by omega)).trans ((of28 0 (by omega)).trans ((of24 0 (by omega)).trans ((of20 0 (by omega)).trans ((of16 0 (by omega)).trans ((of12 0 (by omega)).trans ((of8 0 (by omega)).trans y60))))))) 8 (by decide) q708 rfl rfl dX8_ticket_360 rfl ?_
    refine r_callV (q := 366) (t := 0) (As := [.int (nI tk)]) (st := []) C koX8 ((of32 0 (by omega)).trans ((of28 0 (by omega)).trans ((of24 0 (by omega)).trans ((of20 0 (by omega)).trans ((of16 0 (by omega)).trans ((of12 0 (by omega)).trans ((of8 0 (by omega)).trans y60))))))) (m_close (fn := stF fn tk (nwL (tk + gN) vh kd gr ta sc ps)) (by9 := by9) (fb := wrF (wrF (wrF (wrF (wrF (wrF (wrF (wrF (fun _ => 0) 0 1 1 (lN 1)) 1 4 4 (lN ((stF fn tk (nwL (tk + gN) vh kd gr ta sc ps)) (9 * tk)))) 5 4 4 (lN vh)) 9 4 4 (lN kd)) 13 8 8 (lN gr)) 21 8 8 (lN ta)) 29 8 8 (lN sc)) 37 4 4 (lN ps)) (rD := rD) (hks.kept (fun t _ _ => (of32 t (by omega)).trans ((of28 t (by omega)).trans ((of24 t (by omega)).trans ((of20 t (by omega)).trans ((of16 t (by omega)).trans ((of12 t (by omega)).trans ((of8 t (by omega)).trans (kf t (by omega) (by omega)))))))))) (hsc.kept (fun t _ _ => (of32 t (by omega)).trans ((of28 t (by omega)).trans ((of24 t (by omega)).trans ((of20 t (by omega)).trans ((of16 t (by omega)).trans ((of12 t (by omega)).trans ((of8 t (by omega)).trans (kf t (by omega) (by omega)))))))))) ((of32 0 (by omega)).trans ((of28 0 (by omega)).trans ((of24 0 (by omega)).trans ((of20 0 (by omega)).trans ((of16 0 (by omega)).trans ((of12 0 (by omega)).trans ((of8 0 (by omega)).trans y60))))))) ((of32 6 (by omega)).trans ((of28 6 (by omega)).trans ((of24 6 (by omega)).trans ((of20 6 (by omega)).trans ((of16 6 (by omega)).trans ((of12 6 (by omega)).trans ((of8 6 (by omega)).trans y66))))))) v319 ((of32 10 (by omega)).trans ((of28 10 (by omega)).trans ((of24 10 (by omega)).trans ((of20 10 (by omega)).trans ((of16 10 (by omega)).trans ((of12 10 (by omega)).trans ((of8 10 (by omega)).trans y610))))))) (by omega) (by omega) (by rw [v6]; exact h6v)) q820 q817 q819 qp20 q9 rfl ⟨by decide, by decide⟩ (show (parseMethodDescriptor yX8_close.desc).map (fun d => d.parameters.length) = some 1 by decide +kernel) (by decide) (by decide) (by decide) (by decide) (Nat.le_of_ble_eq_true rfl) rfl dX8_ticket_363 rfl ?_
    rintro v9 v35w ⟨rfl, v35s, v350, v359, v3510, v35f⟩
    show V g k 15 v35w 0 0 (kQ g k (fun v w' => v = some (.int (nI tk)) ∧ MdAt g w' m0 (nI 0) (tk + 1) gN (rN + 1) tN (stF fn tk (nwL (tk + gN) vh kd gr ta sc ps)) wn gp (apR by9 rN (tkB (tk + gN) vh kd gr ta sc ps)) (upd rD rN (nI (sc / 86400))) tD tV tT ∧ Fm w w') 0 0) 366 [(13, .int (nI (73 * rN + 41))), (12, .int (nI (9 * tk))), (10, .long (lN ta)), (0, .ref m0), (1, .int (nI vh)), (2, .int (nI kd)), (3, .long (lN gr)), (5, .long tr), (7, .long (lN sc)), (9, .int (nI ps))] [.int (nI rN)]
    refine r_istore (q := 368) (lv' := [(14, .int (nI rN)), (13, .int (nI (73 * rN + 41))), (12, .int (nI (9 * tk))), (10, .long (lN ta)), (0, .ref m0), (1, .int (nI vh)), (2, .int (nI kd)), (3, .long (lN gr)), (5, .long tr), (7, .long (lN sc)), (9, .int (nI ps))]) C dX8_ticket_366 (by decide) rfl rfl ?_
    refine r_aload_n (q := 369) C 4 dX8_ticket_368 rfl rfl ?_
    refine r_dup (q := 370) C dX8_ticket_369 rfl rfl ?_
    refine r_get (q := 373) (t := 0) C koX8 v350 8 (by decide) q708 rfl rfl dX8_ticket_370 rfl ?_
    refine r_iconst (q := 374) C (nI 1) dX8_ticket_373 (by decide) rfl ?_
    refine r_iadd (q := 375) C dX8_ticket_374 rfl ?_
    refine r_ti (show ((nI tk) + (nI 1) : Int32) = nI (tk + 1) from nI_add tk 1) ?_
    refine r_put (q := 378) (t := 0) (w' := wd_set v35w 0 m0 (mo ad (nI tN) (nI (tk + 1)) (nI (tk + gN + 1)) (nI gN) (nI (rN + 1)) (nI 0) (nI 128) fS)) C koX8 v350 8 (by decide) q708 rfl rfl rfl rfl (Nat.le_of_ble_eq_true rfl) dX8_ticket_375 rfl rfl ?_
    refine r_aload_n (q := 379) C 4 dX8_ticket_378 rfl rfl ?_
    refine r_get (q := 382) (t := 0) C koX8 wd_eq 8 (by decide) q708 rfl rfl dX8_ticket_379 rfl ?_
    refine r_iconst (q := 383) C (nI 1) dX8_ticket_382 (by decide) rfl ?_
    refine r_isub (q := 384) C dX8_ticket_383 rfl ?_
    refine r_ti (show ((nI (tk + 1)) - (nI 1) : Int32) = nI tk from nI_pred tk) ?_
    exact r_iret C rfl (by decide) (by decide) dX8_ticket_384 ⟨rfl, ⟨ad, _, _, _, _, (by rw [show tk + 1 + gN = tk + gN + 1 by omega]; exact wd_eq), hks.kept (fun t _ _ => (wd_ne (by omega)).trans ((v35f t (by omega) (by omega)).trans ((of32 t (by omega)).trans ((of28 t (by omega)).trans ((of24 t (by omega)).trans ((of20 t (by omega)).trans ((of16 t (by omega)).trans ((of12 t (by omega)).trans ((of8 t (by omega)).trans (kf t (by omega) (by omega))))))))))), ((wd_ne (by decide)).trans ((v35f 3 (by decide) (by decide)).trans ((of32 3 (by omega)).trans ((of28 3 (by omega)).trans ((of24 3 (by omega)).trans ((of20 3 (by omega)).trans ((of16 3 (by omega)).trans ((of12 3 (by omega)).trans ((of8 3 (by omega)).trans y63))))))))), ((wd_ne (by decide)).trans ((v35f 4 (by decide) (by decide)).trans ((of32 4 (by omega)).trans ((of28 4 (by omega)).trans ((of24 4 (by omega)).trans ((of20 4 (by omega)).trans ((of16 4 (by omega)).trans ((of12 4 (by omega)).trans ((of8 4 (by omega)).trans y64))))))))), ((wd_ne (by decide)).trans ((v35f 5 (by decide) (by decide)).trans ((of32 5 (by omega)).trans ((of28 5 (by omega)).trans ((of24 5 (by omega)).trans ((of20 5 (by omega)).trans ((of16 5 (by omega)).trans ((of12 5 (by omega)).trans ((of8 5 (by omega)).trans y65))))))))), ((wd_ne (by decide)).trans ((v35f 6 (by decide) (by decide)).trans ((of32 6 (by omega)).trans ((of28 6 (by omega)).trans ((of24 6 (by omega)).trans ((of20 6 (by omega)).trans ((of16 6 (by omega)).trans ((of12 6 (by omega)).trans ((of8 6 (by omega)).trans y66))))))))), ((wd_ne (by decide)).trans ((v35f 7 (by decide) (by decide)).trans ((of32 7 (by omega)).trans ((of28 7 (by omega)).trans ((of24 7 (by omega)).trans ((of20 7 (by omega)).trans ((of16 7 (by omega)).trans ((of12 7 (by omega)).trans ((of8 7 (by omega)).trans y67))))))))), ((wd_ne (by decide)).trans ((v35f 8 (by decide) (by decide)).trans ((of32 8 (by omega)).trans ((of28 8 (by omega)).trans ((of24 8 (by omega)).trans ((of20 8 (by omega)).trans ((of16 8 (by omega)).trans ((of12 8 (by omega)).trans ((of8 8 (by omega)).trans y68))))))))), (by have h99 : (wd_set v35w 0 m0 (mo ad (nI tN) (nI (tk + 1)) (nI (tk + gN + 1)) (nI gN) (nI (rN + 1)) (nI 0) (nI 128) fS)) 9 = some (ad 9, aB g 14600 (apR by9 rN (wrF (wrF (wrF (wrF (wrF (wrF (wrF (wrF (fun _ => 0) 0 1 1 (lN 1)) 1 4 4 (lN ((stF fn tk (nwL (tk + gN) vh kd gr ta sc ps)) (9 * tk)))) 5 4 4 (lN vh)) 9 4 4 (lN kd)) 13 8 8 (lN gr)) 21 8 8 (lN ta)) 29 8 8 (lN sc)) 37 4 4 (lN ps)))) := ((wd_ne (by decide)).trans v359); rw [v0] at h99; exact h99), (by have h99 : (wd_set v35w 0 m0 (mo ad (nI tN) (nI (tk + 1)) (nI (tk + gN + 1)) (nI gN) (nI (rN + 1)) (nI 0) (nI 128) fS)) 10 = some (ad 10, aI g 200 (upd rD rN (nI ((stF fn tk (nwL (tk + gN) vh kd gr ta sc ps)) (9 * tk + 6) / 86400)))) := ((wd_ne (by decide)).trans v3510); rw [v6] at h99; exact h99), v35s.kept (fun t _ _ => wd_ne (by omega)), ((wd_ne (by decide)).trans ((v35f 16 (by decide) (by decide)).trans ((of32 16 (by omega)).trans ((of28 16 (by omega)).trans ((of24 16 (by omega)).trans ((of20 16 (by omega)).trans ((of16 16 (by omega)).trans ((of12 16 (by omega)).trans ((of8 16 (by omega)).trans y616))))))))), ((wd_ne (by decide)).trans ((v35f 17 (by decide) (by decide)).trans ((of32 17 (by omega)).trans ((of28 17 (by omega)).trans ((of24 17 (by omega)).trans ((of20 17 (by omega)).trans ((of16 17 (by omega)).trans ((of12 17 (by omega)).trans ((of8 17 (by omega)).trans y617)))))))))⟩, fun t ht => (wd_ne (by omega)).trans ((v35f t (by omega) (by omega)).trans ((of32 t (by omega)).trans ((of28 t (by omega)).trans ((of24 t (by omega)).trans ((of20 t (by omega)).trans ((of16 t (by omega)).trans ((of12 t (by omega)).trans ((of8 t (by omega)).trans (kf t (by omega) (by omega))))))))))⟩
  rcases htr with rfl | ⟨rfl, k9, hk1, hk2⟩
  · refine r_lcmp_eq (q := 37) (q2 := 40) (tgt := 49) C dX8_ticket_36 rfl dX8_ticket_37 (by decide) rfl (fun hz37 => absurd (ne_m1 (n := ta) (by omega)) (by first | exact hz37 | exact fun zz => zz hz37)) (fun _ => ?_)
    refine r_iconst (q := 41) C (nI 4) dX8_ticket_40 (by decide) rfl ?_
    refine r_lload (q := 43) C 4 dX8_ticket_41 rfl rfl ?_
    refine r_callS (q := 46) (As := [.int (nI 4), .long (lN ta)]) (st := []) C (m_cb_y (f := 4) (n := ta) hp4 hta) q796 q794 q795 q9 ⟨by decide, by decide⟩ (show (parseMethodDescriptor yX8_canBe.desc).map (fun d => d.parameters.length) = some 2 by decide +kernel) (by decide) (by decide) (by decide) (by decide) (Nat.le_of_ble_eq_true rfl) rfl dX8_ticket_43 rfl ?_
    rintro v9 w38 ⟨rfl, rfl⟩
    show V g k 15 (wd_set w 0 m0 (mo ad (nI tN) (nI tk) (nI (tk + gN)) (nI gN) (nI rN) (nI 0) rS fS)) 0 0 (kQ g k (fun v w' => v = some (.int (nI tk)) ∧ MdAt g w' m0 (nI 0) (tk + 1) gN (rN + 1) tN (stF fn tk (nwL (tk + gN) vh kd gr ta sc ps)) wn gp (apR by9 rN (tkB (tk + gN) vh kd gr ta sc ps)) (upd rD rN (nI (sc / 86400))) tD tV tT ∧ Fm w w') 0 0) 46 [(0, .ref m0), (1, .int (nI vh)), (2, .int (nI kd)), (3, .long (lN gr)), (5, .long (lN ta)), (7, .long (lN sc)), (9, .int (nI ps))] [.int (nI 1)]
    refine r_if_eq_f (q := 49) (tgt := 70) C dX8_ticket_46 (by decide) rfl (by decide) ?_
    refine r_bipush (q := 51) C (nI 6) dX8_ticket_49 (by decide) rfl ?_
    refine r_lload (q := 53) C 5 dX8_ticket_51 rfl rfl ?_
    refine r_callS (q := 56) (As := [.int (nI 6), .long (lN sc)]) (st := []) C (m_cb_y (f := 6) (n := sc) hp6 h6v) q796 q794 q795 q9 ⟨by decide, by decide⟩ (show (parseMethodDescriptor yX8_canBe.desc).map (fun d => d.parameters.length) = some 2 by decide +kernel) (by decide) (by decide) (by decide) (by decide) (Nat.le_of_ble_eq_true rfl) rfl dX8_ticket_53 rfl ?_
    rintro v9 w39 ⟨rfl, rfl⟩
    show V g k 15 (wd_set w 0 m0 (mo ad (nI tN) (nI tk) (nI (tk + gN)) (nI gN) (nI rN) (nI 0) rS fS)) 0 0 (kQ g k (fun v w' => v = some (.int (nI tk)) ∧ MdAt g w' m0 (nI 0) (tk + 1) gN (rN + 1) tN (stF fn tk (nwL (tk + gN) vh kd gr ta sc ps)) wn gp (apR by9 rN (tkB (tk + gN) vh kd gr ta sc ps)) (upd rD rN (nI (sc / 86400))) tD tV tT ∧ Fm w w') 0 0) 56 [(0, .ref m0), (1, .int (nI vh)), (2, .int (nI kd)), (3, .long (lN gr)), (5, .long (lN ta)), (7, .long (lN sc)), (9, .int (nI ps))] [.int (nI 1)]
    refine r_if_eq_f (q := 59) (tgt := 70) C dX8_ticket_56 (by decide) rfl (by decide) ?_
    refine r_bipush (q := 61) C (nI 7) dX8_ticket_59 (by decide) rfl ?_
    refine r_iload (q := 63) C 6 dX8_ticket_61 rfl rfl ?_
    refine r_i2l (q := 64) C dX8_ticket_63 rfl ?_
    refine r_tl (show ((nI ps).toInt64 : Int64) = lN ps from nI_l (by omega)) ?_
    refine r_callS (q := 67) (As := [.int (nI 7), .long (lN ps)]) (st := []) C (m_cb_y (f := 7) (n := ps) hp7 h7v) q796 q794 q795 q9 ⟨by decide, by decide⟩ (show (parseMethodDescriptor yX8_canBe.desc).map (fun d => d.parameters.length) = some 2 by decide +kernel) (by decide) (by decide) (by decide) (by decide) (Nat.le_of_ble_eq_true rfl) rfl dX8_ticket_64 rfl ?_
    rintro v9 w40 ⟨rfl, rfl⟩
    show V g k 15 (wd_set w 0 m0 (mo ad (nI tN) (nI tk) (nI (tk + gN)) (nI gN) (nI rN) (nI 0) rS fS)) 0 0 (kQ g k (fun v w' => v = some (.int (nI tk)) ∧ MdAt g w' m0 (nI 0) (tk + 1) gN (rN + 1) tN (stF fn tk (nwL (tk + gN) vh kd gr ta sc ps)) wn gp (apR by9 rN (tkB (tk + gN) vh kd gr ta sc ps)) (upd rD rN (nI (sc / 86400))) tD tV tT ∧ Fm w w') 0 0) 67 [(0, .ref m0), (1, .int (nI vh)), (2, .int (nI kd)), (3, .long (lN gr)), (5, .long (lN ta)), (7, .long (lN sc)), (9, .int (nI ps))] [.int (nI 1)]
    refine r_if_ne_t (tgt := 72) C dX8_ticket_67 (by decide) (by decide) ?_
    refine r_lload (q := 74) C 4 dX8_ticket_72 rfl rfl ?_
    refine r_lconst (q := 75) C (lN 0) dX8_ticket_74 (by decide) rfl ?_
    refine r_lcmp_ge (q := 76) (q2 := 79) (tgt := 92) C dX8_ticket_75 rfl dX8_ticket_76 (by decide) rfl (fun _ => ?_) (fun hz41 => absurd ((pk_lLE (a := 0) (b := ta) (by omega) (by omega)).mpr (by omega)) (by first | exact hz41 | exact fun zz => zz hz41))
    refine r_lload (q := 94) C 4 dX8_ticket_92 rfl rfl ?_
    exact fin9
  · refine r_lcmp_eq (q := 37) (q2 := 40) (tgt := 49) C dX8_ticket_36 rfl dX8_ticket_37 (by decide) rfl (fun _ => ?_) (fun hz42 => absurd (rfl) (by first | exact hz42 | exact fun zz => zz hz42))
    refine r_bipush (q := 51) C (nI 6) dX8_ticket_49 (by decide) rfl ?_
    refine r_lload (q := 53) C 5 dX8_ticket_51 rfl rfl ?_
    refine r_callS (q := 56) (As := [.int (nI 6), .long (lN sc)]) (st := []) C (m_cb_y (f := 6) (n := sc) hp6 h6v) q796 q794 q795 q9 ⟨by decide, by decide⟩ (show (parseMethodDescriptor yX8_canBe.desc).map (fun d => d.parameters.length) = some 2 by decide +kernel) (by decide) (by decide) (by decide) (by decide) (Nat.le_of_ble_eq_true rfl) rfl dX8_ticket_53 rfl ?_
    rintro v9 w43 ⟨rfl, rfl⟩
    show V g k 15 (wd_set w 0 m0 (mo ad (nI tN) (nI tk) (nI (tk + gN)) (nI gN) (nI rN) (nI 0) rS fS)) 0 0 (kQ g k (fun v w' => v = some (.int (nI tk)) ∧ MdAt g w' m0 (nI 0) (tk + 1) gN (rN + 1) tN (stF fn tk (nwL (tk + gN) vh kd gr ta sc ps)) wn gp (apR by9 rN (tkB (tk + gN) vh kd gr ta sc ps)) (upd rD rN (nI (sc / 86400))) tD tV tT ∧ Fm w w') 0 0) 56 [(0, .ref m0), (1, .int (nI vh)), (2, .int (nI kd)), (3, .long (lN gr)), (5, .long (-1)), (7, .long (lN sc)), (9, .int (nI ps))] [.int (nI 1)]
    refine r_if_eq_f (q := 59) (tgt := 70) C dX8_ticket_56 (by decide) rfl (by decide) ?_
    refine r_bipush (q := 61) C (nI 7) dX8_ticket_59 (by decide) rfl ?_
    refine r_iload (q := 63) C 6 dX8_ticket_61 rfl rfl ?_
    refine r_i2l (q := 64) C dX8_ticket_63 rfl ?_
    refine r_tl (show ((nI ps).toInt64 : Int64) = lN ps from nI_l (by omega)) ?_
    refine r_callS (q := 67) (As := [.int (nI 7), .long (lN ps)]) (st := []) C (m_cb_y (f := 7) (n := ps) hp7 h7v) q796 q794 q795 q9 ⟨by decide, by decide⟩ (show (parseMethodDescriptor yX8_canBe.desc).map (fun d => d.parameters.length) = some 2 by decide +kernel) (by decide) (by decide) (by decide) (by decide) (Nat.le_of_ble_eq_true rfl) rfl dX8_ticket_64 rfl ?_
    rintro v9 w44 ⟨rfl, rfl⟩
    show V g k 15 (wd_set w 0 m0 (mo ad (nI tN) (nI tk) (nI (tk + gN)) (nI gN) (nI rN) (nI 0) rS fS)) 0 0 (kQ g k (fun v w' => v = some (.int (nI tk)) ∧ MdAt g w' m0 (nI 0) (tk + 1) gN (rN + 1) tN (stF fn tk (nwL (tk + gN) vh kd gr ta sc ps)) wn gp (apR by9 rN (tkB (tk + gN) vh kd gr ta sc ps)) (upd rD rN (nI (sc / 86400))) tD tV tT ∧ Fm w w') 0 0) 67 [(0, .ref m0), (1, .int (nI vh)), (2, .int (nI kd)), (3, .long (lN gr)), (5, .long (-1)), (7, .long (lN sc)), (9, .int (nI ps))] [.int (nI 1)]
    refine r_if_ne_t (tgt := 72) C dX8_ticket_67 (by decide) (by decide) ?_
    refine r_lload (q := 74) C 4 dX8_ticket_72 rfl rfl ?_
    refine r_lconst (q := 75) C (lN 0) dX8_ticket_74 (by decide) rfl ?_
    refine r_lcmp_ge (q := 76) (q2 := 79) (tgt := 92) C dX8_ticket_75 rfl dX8_ticket_76 (by decide) rfl (fun hz45 => absurd (show ¬ (lN 0 : Int64) ≤ -1 by decide) (by first | exact hz45 | exact fun zz => zz hz45)) (fun _ => ?_)
    refine r_aload_n (q := 80) C 0 dX8_ticket_79 rfl rfl ?_
    refine r_iload_n (q := 81) C 1 dX8_ticket_80 rfl rfl ?_
    refine r_lload (q := 83) C 5 dX8_ticket_81 rfl rfl ?_
    refine r_callS (q := 86) (As := [.long (lN sc)]) (st := [.int (nI vh), .ref m0]) C (m_dayOf h6v) q803 q801 q802 q9 ⟨by decide, by decide⟩ (show (parseMethodDescriptor yX8_dayOf.desc).map (fun d => d.parameters.length) = some 1 by decide +kernel) (by decide) (by decide) (by decide) (by decide) (Nat.le_of_ble_eq_true rfl) rfl dX8_ticket_83 rfl ?_
    rintro v9 w46 ⟨rfl, rfl⟩
    show V g k 15 (wd_set w 0 m0 (mo ad (nI tN) (nI tk) (nI (tk + gN)) (nI gN) (nI rN) (nI 0) rS fS)) 0 0 (kQ g k (fun v w' => v = some (.int (nI tk)) ∧ MdAt g w' m0 (nI 0) (tk + 1) gN (rN + 1) tN (stF fn tk (nwL (tk + gN) vh kd gr ta sc ps)) wn gp (apR by9 rN (tkB (tk + gN) vh kd gr ta sc ps)) (upd rD rN (nI (sc / 86400))) tD tV tT ∧ Fm w w') 0 0) 86 [(0, .ref m0), (1, .int (nI vh)), (2, .int (nI kd)), (3, .long (lN gr)), (5, .long (-1)), (7, .long (lN sc)), (9, .int (nI ps))] [.int (nI (sc / 86400)), .int (nI vh), .ref m0]
    refine r_callV (q := 89) (t := 0) (As := [.int (nI vh), .int (nI (sc / 86400))]) (st := []) C koX8 wd_eq (m_tar_y wd_eq ((wd_ne (by decide)).trans h3) ((wd_ne (by decide)).trans h4) ((wd_ne (by decide)).trans h5) (by omega) hk1) q808 q805 q807 qp17 q9 rfl ⟨by decide, by decide⟩ (show (parseMethodDescriptor yX8_tareOf.desc).map (fun d => d.parameters.length) = some 2 by decide +kernel) (by decide) (by decide) (by decide) (by decide) (Nat.le_of_ble_eq_true rfl) rfl dX8_ticket_86 rfl ?_
    rintro v9 w47 ⟨rfl, rfl⟩
    show V g k 15 (wd_set w 0 m0 (mo ad (nI tN) (nI tk) (nI (tk + gN)) (nI gN) (nI rN) (nI 0) rS fS)) 0 0 (kQ g k (fun v w' => v = some (.int (nI tk)) ∧ MdAt g w' m0 (nI 0) (tk + 1) gN (rN + 1) tN (stF fn tk (nwL (tk + gN) vh kd gr ta sc ps)) wn gp (apR by9 rN (tkB (tk + gN) vh kd gr ta sc ps)) (upd rD rN (nI (sc / 86400))) tD tV tT ∧ Fm w w') 0 0) 89 [(0, .ref m0), (1, .int (nI vh)), (2, .int (nI kd)), (3, .long (lN gr)), (5, .long (-1)), (7, .long (lN sc)), (9, .int (nI ps))] [.long ((tT k9).toInt64)]
    refine r_tl (show ((tT k9).toInt64 : Int64) = lN ta from by rw [hk2]; exact nI_l (by omega)) ?_
    refine r_goto (tgt := 94) C dX8_ticket_89 (by decide) ?_
    exact fin9
