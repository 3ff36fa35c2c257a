/-! TicketChain: ticket, the constructor -/
theorem nok_m1 {x : Int32} : ¬ ok9 x (-1) := by
  intro ⟨f, n, _, hf, hn, e⟩
  have hm := mx9_le hf
  have h := m1_lt (n := n) (by omega)
  rw [← e] at h
  exact absurd h (by decide)
/-- a new ticket's fields -/
def stF (fn : Nat → Nat) (k : Nat) (l : List Nat) : Nat → Nat := fun p => if 9 * k ≤ p ∧ p < 9 * k + 9 then l.getD (p - 9 * k) 0 else fn p
theorem stF_v {fn : Nat → Nat} {k j : Nat} {l : List Nat} (hj : j < 9) : stF fn k l (9 * k + j) = l.getD j 0 := by
  unfold stF
  rw [if_pos (by omega), Nat.add_sub_cancel_left]
theorem stF_o {fn : Nat → Nat} {k k8 j : Nat} {l : List Nat} (hk : k8 < k) (hj : j < 9) : fv9 (stF fn k l) k8 j = fv9 fn k8 j := by
  have e : ∀ i, i < 9 → stF fn k l (9 * k8 + i) = fn (9 * k8 + i) := fun i hi => if_neg (by omega)
  unfold fv9
  rw [e 3 (by decide), e 4 (by decide), e j hj]
theorem ne_m1 {n : Nat} (h : n < 2 ^ 63) : ¬ lN n = -1 := by
  intro z
  have h1 := m1_lt h
  rw [z] at h1
  exact absurd h1 (by decide)
def nwL (nu vh kd gr ta sc ps : Nat) : List Nat := [nu, vh, kd, gr, ta, 0, sc, ps, 0]
theorem nw_f {ff : Nat → Int64} {fn : Nat → Nat} {k nu vh kd gr ta sc ps : Nat} (h0 : nu ≤ 1000) (h1 : vh ≤ 99) (h2 : kd ≤ 9) (h7 : ps ≤ 999) (hg : ta ≤ gr) (e0 : ff 0 = (nI nu).toInt64) (e1 : ff 1 = (nI vh).toInt64) (e2 : ff 2 = (nI kd).toInt64) (e3 : ff 3 = lN gr) (e4 : ff 4 = lN ta) (e5 : ff 5 = lN gr - lN ta) (e6 : ff 6 = lN sc) (e7 : ff 7 = (nI ps).toInt64) (e8 : ff 8 = 0) : ∀ j, j < 9 → ff j = lN (fv9 (stF fn k (nwL nu vh kd gr ta sc ps)) k j) := by
  intro j hj
  have c : j = 0 ∨ j = 1 ∨ j = 2 ∨ j = 3 ∨ j = 4 ∨ j = 5 ∨ j = 6 ∨ j = 7 ∨ j = 8 := by omega
  rcases c with rfl | rfl | rfl | rfl | rfl | rfl | rfl | rfl | rfl
  · rw [e0, nI_l (by omega), fv9_n (by decide), stF_v (by decide)]; rfl
  · rw [e1, nI_l (by omega), fv9_n (by decide), stF_v (by decide)]; rfl
  · rw [e2, nI_l (by omega), fv9_n (by decide), stF_v (by decide)]; rfl
  · rw [e3, fv9_n (by decide), stF_v (by decide)]; rfl
  · rw [e4, fv9_n (by decide), stF_v (by decide)]; rfl
  · rw [e5, lN_sub hg]
    unfold fv9
    rw [if_pos rfl, stF_v (by decide), stF_v (by decide)]
    rfl
  · rw [e6, fv9_n (by decide), stF_v (by decide)]; rfl
  · rw [e7, nI_l (by omega), fv9_n (by decide), stF_v (by decide)]; rfl
  · rw [e8, fv9_n (by decide), stF_v (by decide)]; rfl
theorem nw_B {fn : Nat → Nat} {k nu vh kd gr ta sc ps : Nat} : tkB (fv9 (stF fn k (nwL nu vh kd gr ta sc ps)) k 0) (fv9 (stF fn k (nwL nu vh kd gr ta sc ps)) k 1) (fv9 (stF fn k (nwL nu vh kd gr ta sc ps)) k 2) (fv9 (stF fn k (nwL nu vh kd gr ta sc ps)) k 3) (fv9 (stF fn k (nwL nu vh kd gr ta sc ps)) k 4) (fv9 (stF fn k (nwL nu vh kd gr ta sc ps)) k 6) (fv9 (stF fn k (nwL nu vh kd gr ta sc ps)) k 7) = tkB nu vh kd gr ta sc ps := by
  rw [fv9_n (by decide), fv9_n (by decide), fv9_n (by decide), fv9_n (by decide), fv9_n (by decide), fv9_n (by decide), fv9_n (by decide), stF_v (by decide), stF_v (by decide), stF_v (by decide), stF_v (by decide), stF_v (by decide), stF_v (by decide), stF_v (by decide)]
  rfl
theorem nw_6 {fn : Nat → Nat} {k nu vh kd gr ta sc ps : Nat} : fv9 (stF fn k (nwL nu vh kd gr ta sc ps)) k 6 = sc := by
  rw [fv9_n (by decide), stF_v (by decide)]
  rfl
set_option maxHeartbeats 4000000 in
set_option maxRecDepth 20000 in
theorem x_tk_b {l : Launch} {g : cx_G} {w : wd_T} {c a0 tk gN rN tN : Nat} {fn wn : Nat → Nat} {gp by9 rD tD tV tT : Nat → Int32} (hT : TcAt g w a0 tk gN rN tN fn wn gp by9 rD tD tV tT) (hI : Iv9 c tk gN rN tN fn wn by9 tD tV tT) {vh kd ps : Int32} {gr tr sc : Int64} (hb : ¬ (ok9 (nI 1) vh.toInt64 ∧ ok9 (nI 2) kd.toInt64 ∧ ok9 (nI 3) gr ∧ ok9 (nI 6) sc ∧ ok9 (nI 7) ps.toInt64)) : Mt l g yX7_ticket cX7_ticket 13 (some .int) 8 7 1015 w [.ref a0, .int vh, .int kd, .long gr, .long tr, .long sc, .int ps] (fun v w' => v = some (.int (-1)) ∧ TcAt g w' a0 tk gN rN tN fn wn gp by9 rD tD tV tT ∧ Fl w w') := by
  refine mt_of RX7 "ticket" rfl rfl (by decide) (Nat.le_of_ble_eq_true rfl) [(0, .ref a0), (1, .int vh), (2, .int kd), (3, .long gr), (5, .long tr), (7, .long sc), (9, .int ps)] rfl ?_
  intro k hkl C hin
  subst hkl
  have hTk := hT
  obtain ⟨a1, alb, alk, asp, a3, alr, asu, alv, af, asg, elb, elk, er, ab, gp9, T, t0, t1, t2, t3, t4, t5, t6, t7, t8⟩ := hTk
  obtain ⟨i0, i1, i2, i3, i4, i5, i6, i7, i8, i9, i10⟩ := id hI
  refine r_iconst (q := 1) C (nI 1) dX7_ticket_0 (by decide) rfl ?_
  refine r_iload_n (q := 2) C 1 dX7_ticket_1 rfl rfl ?_
  refine r_i2l (q := 3) C dX7_ticket_2 rfl ?_
  by_cases uu0 : ok9 (nI 1) vh.toInt64
  · refine r_callS (q := 6) (As := [.int (nI 1), .long vh.toInt64]) (st := []) C (c_fits_ok uu0) q154 q152 q153 q1 ⟨by decide, by decide⟩ (show (parseMethodDescriptor yX7_fits.desc).map (fun d => d.parameters.length) = some 2 by decide +kernel) (by decide) (by decide) (by decide) (by decide) (Nat.le_of_ble_eq_true rfl) rfl dX7_ticket_3 rfl ?_
    rintro v9 w1 ⟨rfl, rfl⟩
    show V g k 13 w 0 0 (kQ g k (fun v w' => v = some (.int (-1)) ∧ TcAt g w' a0 tk gN rN tN fn wn gp by9 rD tD tV tT ∧ Fl w w') 7 1015) 6 [(0, .ref a0), (1, .int vh), (2, .int kd), (3, .long gr), (5, .long tr), (7, .long sc), (9, .int ps)] [.int (nI 1)]
    refine r_if_eq_f (q := 9) (tgt := 47) C dX7_ticket_6 (by decide) rfl (by decide) ?_
    refine r_iconst (q := 10) C (nI 2) dX7_ticket_9 (by decide) rfl ?_
    refine r_iload_n (q := 11) C 2 dX7_ticket_10 rfl rfl ?_
    refine r_i2l (q := 12) C dX7_ticket_11 rfl ?_
    by_cases uu1 : ok9 (nI 2) kd.toInt64
    · refine r_callS (q := 15) (As := [.int (nI 2), .long kd.toInt64]) (st := []) C (c_fits_ok uu1) q154 q152 q153 q1 ⟨by decide, by decide⟩ (show (parseMethodDescriptor yX7_fits.desc).map (fun d => d.parameters.length) = some 2 by decide +kernel) (by decide) (by decide) (by decide) (by decide) (Nat.le_of_ble_eq_true rfl) rfl dX7_ticket_12 rfl ?_
      rintro v9 w2 ⟨rfl, rfl⟩
      show V g k 13 w 0 0 (kQ g k (fun v w' => v = some (.int (-1)) ∧ TcAt g w' a0 tk gN rN tN fn wn gp by9 rD tD tV tT ∧ Fl w w') 7 1015) 15 [(0, .ref a0), (1, .int vh), (2, .int kd), (3, .long gr), (5, .long tr), (7, .long sc), (9, .int ps)] [.int (nI 1)]
      refine r_if_eq_f (q := 18) (tgt := 47) C dX7_ticket_15 (by decide) rfl (by decide) ?_
      refine r_iconst (q := 19) C (nI 3) dX7_ticket_18 (by decide) rfl ?_
      refine r_lload_n (q := 20) C 3 dX7_ticket_19 rfl rfl ?_
      by_cases uu2 : ok9 (nI 3) gr
      · refine r_callS (q := 23) (As := [.int (nI 3), .long gr]) (st := []) C (c_fits_ok uu2) q154 q152 q153 q1 ⟨by decide, by decide⟩ (show (parseMethodDescriptor yX7_fits.desc).map (fun d => d.parameters.length) = some 2 by decide +kernel) (by decide) (by decide) (by decide) (by decide) (Nat.le_of_ble_eq_true rfl) rfl dX7_ticket_20 rfl ?_
        rintro v9 w3 ⟨rfl, rfl⟩
        show V g k 13 w 0 0 (kQ g k (fun v w' => v = some (.int (-1)) ∧ TcAt g w' a0 tk gN rN tN fn wn gp by9 rD tD tV tT ∧ Fl w w') 7 1015) 23 [(0, .ref a0), (1, .int vh), (2, .int kd), (3, .long gr), (5, .long tr), (7, .long sc), (9, .int ps)] [.int (nI 1)]
        refine r_if_eq_f (q := 26) (tgt := 47) C dX7_ticket_23 (by decide) rfl (by decide) ?_
        refine r_bipush (q := 28) C (nI 6) dX7_ticket_26 (by decide) rfl ?_
        refine r_lload (q := 30) C 5 dX7_ticket_28 rfl rfl ?_
        by_cases uu3 : ok9 (nI 6) sc
        · refine r_callS (q := 33) (As := [.int (nI 6), .long sc]) (st := []) C (c_fits_ok uu3) q154 q152 q153 q1 ⟨by decide, by decide⟩ (show (parseMethodDescriptor yX7_fits.desc).map (fun d => d.parameters.length) = some 2 by decide +kernel) (by decide) (by decide) (by decide) (by decide) (Nat.le_of_ble_eq_true rfl) rfl dX7_ticket_30 rfl ?_
          rintro v9 w4 ⟨rfl, rfl⟩
          show V g k 13 w 0 0 (kQ g k (fun v w' => v = some (.int (-1)) ∧ TcAt g w' a0 tk gN rN tN fn wn gp by9 rD tD tV tT ∧ Fl w w') 7 1015) 33 [(0, .ref a0), (1, .int vh), (2, .int kd), (3, .long gr), (5, .long tr), (7, .long sc), (9, .int ps)] [.int (nI 1)]
          refine r_if_eq_f (q := 36) (tgt := 47) C dX7_ticket_33 (by decide) rfl (by decide) ?_
          refine r_bipush (q := 38) C (nI 7) dX7_ticket_36 (by decide) rfl ?_
          refine r_iload (q := 40) C 6 dX7_ticket_38 rfl rfl ?_
          refine r_i2l (q := 41) C dX7_ticket_40 rfl ?_
          by_cases uu4 : ok9 (nI 7) ps.toInt64
          · exact absurd ⟨uu0, uu1, uu2, uu3, uu4⟩ hb
          · refine r_callS (q := 44) (As := [.int (nI 7), .long ps.toInt64]) (st := []) C (c_fits_n uu4) q154 q152 q153 q1 ⟨by decide, by decide⟩ (show (parseMethodDescriptor yX7_fits.desc).map (fun d => d.parameters.length) = some 2 by decide +kernel) (by decide) (by decide) (by decide) (by decide) (Nat.le_of_ble_eq_true rfl) rfl dX7_ticket_41 rfl ?_
            rintro v9 w5 ⟨rfl, rfl⟩
            show V g k 13 w 0 0 (kQ g k (fun v w' => v = some (.int (-1)) ∧ TcAt g w' a0 tk gN rN tN fn wn gp by9 rD tD tV tT ∧ Fl w w') 7 1015) 44 [(0, .ref a0), (1, .int vh), (2, .int kd), (3, .long gr), (5, .long tr), (7, .long sc), (9, .int ps)] [.int (nI 0)]
            refine r_if_ne_f (q := 47) (tgt := 49) C dX7_ticket_44 (by decide) rfl (by decide) ?_
            refine r_iconst (q := 48) C ((-1)) dX7_ticket_47 (by decide) rfl ?_
            exact r_iret C rfl (by decide) (by decide) dX7_ticket_48 ⟨rfl, hT, Fl.rfl'⟩
        · refine r_callS (q := 33) (As := [.int (nI 6), .long sc]) (st := []) C (c_fits_n uu3) q154 q152 q153 q1 ⟨by decide, by decide⟩ (show (parseMethodDescriptor yX7_fits.desc).map (fun d => d.parameters.length) = some 2 by decide +kernel) (by decide) (by decide) (by decide) (by decide) (Nat.le_of_ble_eq_true rfl) rfl dX7_ticket_30 rfl ?_
          rintro v9 w6 ⟨rfl, rfl⟩
          show V g k 13 w 0 0 (kQ g k (fun v w' => v = some (.int (-1)) ∧ TcAt g w' a0 tk gN rN tN fn wn gp by9 rD tD tV tT ∧ Fl w w') 7 1015) 33 [(0, .ref a0), (1, .int vh), (2, .int kd), (3, .long gr), (5, .long tr), (7, .long sc), (9, .int ps)] [.int (nI 0)]
          refine r_if_eq_t (tgt := 47) C dX7_ticket_33 (by decide) (by decide) ?_
          refine r_iconst (q := 48) C ((-1)) dX7_ticket_47 (by decide) rfl ?_
          exact r_iret C rfl (by decide) (by decide) dX7_ticket_48 ⟨rfl, hT, Fl.rfl'⟩
      · refine r_callS (q := 23) (As := [.int (nI 3), .long gr]) (st := []) C (c_fits_n uu2) q154 q152 q153 q1 ⟨by decide, by decide⟩ (show (parseMethodDescriptor yX7_fits.desc).map (fun d => d.parameters.length) = some 2 by decide +kernel) (by decide) (by decide) (by decide) (by decide) (Nat.le_of_ble_eq_true rfl) rfl dX7_ticket_20 rfl ?_
        rintro v9 w7 ⟨rfl, rfl⟩
        show V g k 13 w 0 0 (kQ g k (fun v w' => v = some (.int (-1)) ∧ TcAt g w' a0 tk gN rN tN fn wn gp by9 rD tD tV tT ∧ Fl w w') 7 1015) 23 [(0, .ref a0), (1, .int vh), (2, .int kd), (3, .long gr), (5, .long tr), (7, .long sc), (9, .int ps)] [.int (nI 0)]
        refine r_if_eq_t (tgt := 47) C dX7_ticket_23 (by decide) (by decide) ?_
        refine r_iconst (q := 48) C ((-1)) dX7_ticket_47 (by decide) rfl ?_
        exact r_iret C rfl (by decide) (by decide) dX7_ticket_48 ⟨rfl, hT, Fl.rfl'⟩
    · refine r_callS (q := 15) (As := [.int (nI 2), .long kd.toInt64]) (st := []) C (c_fits_n uu1) q154 q152 q153 q1 ⟨by decide, by decide⟩ (show (parseMethodDescriptor yX7_fits.desc).map (fun d => d.parameters.length) = some 2 by decide +kernel) (by decide) (by decide) (by decide) (by decide) (Nat.le_of_ble_eq_true rfl) rfl dX7_ticket_12 rfl ?_
      rintro v9 w8 ⟨rfl, rfl⟩
      show V g k 13 w 0 0 (kQ g k (fun v w' => v = some (.int (-1)) ∧ TcAt g w' a0 tk gN rN tN fn wn gp by9 rD tD tV tT ∧ Fl w w') 7 1015) 15 [(0, .ref a0), (1, .int vh), (2, .int kd), (3, .long gr), (5, .long tr), (7, .long sc), (9, .int ps)] [.int (nI 0)]
      refine r_if_eq_t (tgt := 47) C dX7_ticket_15 (by decide) (by decide) ?_
      refine r_iconst (q := 48) C ((-1)) dX7_ticket_47 (by decide) rfl ?_
      exact r_iret C rfl (by decide) (by decide) dX7_ticket_48 ⟨rfl, hT, Fl.rfl'⟩
  · refine r_callS (q := 6) (As := [.int (nI 1), .long vh.toInt64]) (st := []) C (c_fits_n uu0) q154 q152 q153 q1 ⟨by decide, by decide⟩ (show (parseMethodDescriptor yX7_fits.desc).map (fun d => d.parameters.length) = some 2 by decide +kernel) (by decide) (by decide) (by decide) (by decide) (Nat.le_of_ble_eq_true rfl) rfl dX7_ticket_3 rfl ?_
    rintro v9 w9 ⟨rfl, rfl⟩
    show V g k 13 w 0 0 (kQ g k (fun v w' => v = some (.int (-1)) ∧ TcAt g w' a0 tk gN rN tN fn wn gp by9 rD tD tV tT ∧ Fl w w') 7 1015) 6 [(0, .ref a0), (1, .int vh), (2, .int kd), (3, .long gr), (5, .long tr), (7, .long sc), (9, .int ps)] [.int (nI 0)]
    refine r_if_eq_t (tgt := 47) C dX7_ticket_6 (by decide) (by decide) ?_
    refine r_iconst (q := 48) C ((-1)) dX7_ticket_47 (by decide) rfl ?_
    exact r_iret C rfl (by decide) (by decide) dX7_ticket_48 ⟨rfl, hT, Fl.rfl'⟩

set_option maxHeartbeats 4000000 in
set_option maxRecDepth 20000 in
theorem x_tk_u {l : Launch} {g : cx_G} {w : wd_T} {c a0 tk gN rN tN : Nat} {fn wn : Nat → Nat} {gp by9 rD tD tV tT : Nat → Int32} (hT : TcAt g w a0 tk gN rN tN fn wn gp by9 rD tD tV tT) (hI : Iv9 c tk gN rN tN fn wn by9 tD tV tT) {vh kd gr sc ps : Nat} (h1v : vh ≤ 99) (h2v : kd ≤ 9) (h3v : gr ≤ 1000000000) (h6v : sc ≤ 8000000000) (h7v : ps ≤ 999) (h9 : lu9 tD tV (nI (sc / 86400)) (nI vh) tN = none) : Mt l g yX7_ticket cX7_ticket 13 (some .int) 8 7 1015 w [.ref a0, .int (nI vh), .int (nI kd), .long (lN gr), .long (-1), .long (lN sc), .int (nI ps)] (fun v w' => v = some (.int (-1)) ∧ TcAt g w' a0 tk gN rN tN fn wn gp by9 rD tD tV tT ∧ Fl w w') := by
  refine mt_of RX7 "ticket" rfl rfl (by decide) (Nat.le_of_ble_eq_true rfl) [(0, .ref a0), (1, .int (nI vh)), (2, .int (nI kd)), (3, .long (lN gr)), (5, .long (-1)), (7, .long (lN sc)), (9, .int (nI ps))] rfl ?_
  intro k hkl C hin
  subst hkl
  have hTk := hT
  obtain ⟨a1, alb, alk, asp, a3, alr, asu, alv, af, asg, elb, elk, er, ab, gp9, T, t0, t1, t2, t3, t4, t5, t6, t7, t8⟩ := hTk
  obtain ⟨i0, i1, i2, i3, i4, i5, i6, i7, i8, i9, i10⟩ := id hI
  have hp1 : cb9 1 := by unfold cb9; omega
  have hp2 : cb9 2 := by unfold cb9; omega
  have hp3 : cb9 3 := by unfold cb9; omega
  have hp4 : cb9 4 := by unfold cb9; omega
  have hp6 : cb9 6 := by unfold cb9; omega
  have hp7 : cb9 7 := by unfold cb9; omega
  refine r_iconst (q := 1) C (nI 1) dX7_ticket_0 (by decide) rfl ?_
  refine r_iload_n (q := 2) C 1 dX7_ticket_1 rfl rfl ?_
  refine r_i2l (q := 3) C dX7_ticket_2 rfl ?_
  refine r_tl (show ((nI vh).toInt64 : Int64) = lN vh from nI_l (by omega)) ?_
  refine r_callS (q := 6) (As := [.int (nI 1), .long (lN vh)]) (st := []) C (c_fits_y (f := 1) (n := vh) hp1 h1v) q154 q152 q153 q1 ⟨by decide, by decide⟩ (show (parseMethodDescriptor yX7_fits.desc).map (fun d => d.parameters.length) = some 2 by decide +kernel) (by decide) (by decide) (by decide) (by decide) (Nat.le_of_ble_eq_true rfl) rfl dX7_ticket_3 rfl ?_
  rintro v9 w1 ⟨rfl, rfl⟩
  show V g k 13 w 0 0 (kQ g k (fun v w' => v = some (.int (-1)) ∧ TcAt g w' a0 tk gN rN tN fn wn gp by9 rD tD tV tT ∧ Fl w w') 7 1015) 6 [(0, .ref a0), (1, .int (nI vh)), (2, .int (nI kd)), (3, .long (lN gr)), (5, .long (-1)), (7, .long (lN sc)), (9, .int (nI ps))] [.int (nI 1)]
  refine r_if_eq_f (q := 9) (tgt := 47) C dX7_ticket_6 (by decide) rfl (by decide) ?_
  refine r_iconst (q := 10) C (nI 2) dX7_ticket_9 (by decide) rfl ?_
  refine r_iload_n (q := 11) C 2 dX7_ticket_10 rfl rfl ?_
  refine r_i2l (q := 12) C dX7_ticket_11 rfl ?_
  refine r_tl (show ((nI kd).toInt64 : Int64) = lN kd from nI_l (by omega)) ?_
  refine r_callS (q := 15) (As := [.int (nI 2), .long (lN kd)]) (st := []) C (c_fits_y (f := 2) (n := kd) hp2 h2v) q154 q152 q153 q1 ⟨by decide, by decide⟩ (show (parseMethodDescriptor yX7_fits.desc).map (fun d => d.parameters.length) = some 2 by decide +kernel) (by decide) (by decide) (by decide) (by decide) (Nat.le_of_ble_eq_true rfl) rfl dX7_ticket_12 rfl ?_
  rintro v9 w2 ⟨rfl, rfl⟩
  show V g k 13 w 0 0 (kQ g k (fun v w' => v = some (.int (-1)) ∧ TcAt g w' a0 tk gN rN tN fn wn gp by9 rD tD tV tT ∧ Fl w w') 7 1015) 15 [(0, .ref a0), (1, .int (nI vh)), (2, .int (nI kd)), (3, .long (lN gr)), (5, .long (-1)), (7, .long (lN sc)), (9, .int (nI ps))] [.int (nI 1)]
  refine r_if_eq_f (q := 18) (tgt := 47) C dX7_ticket_15 (by decide) rfl (by decide) ?_
  refine r_iconst (q := 19) C (nI 3) dX7_ticket_18 (by decide) rfl ?_
  refine r_lload_n (q := 20) C 3 dX7_ticket_19 rfl rfl ?_
  refine r_callS (q := 23) (As := [.int (nI 3), .long (lN gr)]) (st := []) C (c_fits_y (f := 3) (n := gr) hp3 h3v) q154 q152 q153 q1 ⟨by decide, by decide⟩ (show (parseMethodDescriptor yX7_fits.desc).map (fun d => d.parameters.length) = some 2 by decide +kernel) (by decide) (by decide) (by decide) (by decide) (Nat.le_of_ble_eq_true rfl) rfl dX7_ticket_20 rfl ?_
  rintro v9 w3 ⟨rfl, rfl⟩
  show V g k 13 w 0 0 (kQ g k (fun v w' => v = some (.int (-1)) ∧ TcAt g w' a0 tk gN rN tN fn wn gp by9 rD tD tV tT ∧ Fl w w') 7 1015) 23 [(0, .ref a0), (1, .int (nI vh)), (2, .int (nI kd)), (3, .long (lN gr)), (5, .long (-1)), (7, .long (lN sc)), (9, .int (nI ps))] [.int (nI 1)]
  refine r_if_eq_f (q := 26) (tgt := 47) C dX7_ticket_23 (by decide) rfl (by decide) ?_
  refine r_bipush (q := 28) C (nI 6) dX7_ticket_26 (by decide) rfl ?_
  refine r_lload (q := 30) C 5 dX7_ticket_28 rfl rfl ?_
  refine r_callS (q := 33) (As := [.int (nI 6), .long (lN sc)]) (st := []) C (c_fits_y (f := 6) (n := sc) hp6 h6v) q154 q152 q153 q1 ⟨by decide, by decide⟩ (show (parseMethodDescriptor yX7_fits.desc).map (fun d => d.parameters.length) = some 2 by decide +kernel) (by decide) (by decide) (by decide) (by decide) (Nat.le_of_ble_eq_true rfl) rfl dX7_ticket_30 rfl ?_
  rintro v9 w4 ⟨rfl, rfl⟩
  show V g k 13 w 0 0 (kQ g k (fun v w' => v = some (.int (-1)) ∧ TcAt g w' a0 tk gN rN tN fn wn gp by9 rD tD tV tT ∧ Fl w w') 7 1015) 33 [(0, .ref a0), (1, .int (nI vh)), (2, .int (nI kd)), (3, .long (lN gr)), (5, .long (-1)), (7, .long (lN sc)), (9, .int (nI ps))] [.int (nI 1)]
  refine r_if_eq_f (q := 36) (tgt := 47) C dX7_ticket_33 (by decide) rfl (by decide) ?_
  refine r_bipush (q := 38) C (nI 7) dX7_ticket_36 (by decide) rfl ?_
  refine r_iload (q := 40) C 6 dX7_ticket_38 rfl rfl ?_
  refine r_i2l (q := 41) C dX7_ticket_40 rfl ?_
  refine r_tl (show ((nI ps).toInt64 : Int64) = lN ps from nI_l (by omega)) ?_
  refine r_callS (q := 44) (As := [.int (nI 7), .long (lN ps)]) (st := []) C (c_fits_y (f := 7) (n := ps) hp7 h7v) q154 q152 q153 q1 ⟨by decide, by decide⟩ (show (parseMethodDescriptor yX7_fits.desc).map (fun d => d.parameters.length) = some 2 by decide +kernel) (by decide) (by decide) (by decide) (by decide) (Nat.le_of_ble_eq_true rfl) rfl dX7_ticket_41 rfl ?_
  rintro v9 w5 ⟨rfl, rfl⟩
  show V g k 13 w 0 0 (kQ g k (fun v w' => v = some (.int (-1)) ∧ TcAt g w' a0 tk gN rN tN fn wn gp by9 rD tD tV tT ∧ Fl w w') 7 1015) 44 [(0, .ref a0), (1, .int (nI vh)), (2, .int (nI kd)), (3, .long (lN gr)), (5, .long (-1)), (7, .long (lN sc)), (9, .int (nI ps))] [.int (nI 1)]
  refine r_if_ne_t (tgt := 49) C dX7_ticket_44 (by decide) (by decide) ?_
  refine r_lload (q := 51) C 4 dX7_ticket_49 rfl rfl ?_
  refine r_ldc2 (q := 54) (v := (-1)) C dX7_ticket_51 q163 rfl ?_
  refine r_lcmp_ne (q := 55) (q2 := 58) (tgt := 74) C dX7_ticket_54 rfl dX7_ticket_55 (by decide) rfl (fun hz6 => absurd (rfl) (by first | exact hz6 | exact fun zz => zz hz6)) (fun _ => ?_)
  refine r_aload_n (q := 59) C 0 dX7_ticket_58 rfl rfl ?_
  refine r_get (q := 62) (t := 100) C koX7 t0 0 (by decide) q125 rfl rfl dX7_ticket_59 rfl ?_
  refine r_lload (q := 64) C 5 dX7_ticket_62 rfl rfl ?_
  refine r_callS (q := 67) (As := [.long (lN sc)]) (st := [.ref a1]) C (c_dayOf h6v) q273 q271 q272 q1 ⟨by decide, by decide⟩ (show (parseMethodDescriptor yX7_dayOf.desc).map (fun d => d.parameters.length) = some 1 by decide +kernel) (by decide) (by decide) (by decide) (by decide) (Nat.le_of_ble_eq_true rfl) rfl dX7_ticket_64 rfl ?_
  rintro v9 w7 ⟨rfl, rfl⟩
  show V g k 13 w 0 0 (kQ g k (fun v w' => v = some (.int (-1)) ∧ TcAt g w' a0 tk gN rN tN fn wn gp by9 rD tD tV tT ∧ Fl w w') 7 1015) 67 [(0, .ref a0), (1, .int (nI vh)), (2, .int (nI kd)), (3, .long (lN gr)), (5, .long (-1)), (7, .long (lN sc)), (9, .int (nI ps))] [.int (nI (sc / 86400)), .ref a1]
  refine r_iload_n (q := 68) C 1 dX7_ticket_67 rfl rfl ?_
  refine r_callV (q := 71) (t := 101) (As := [.int (nI (sc / 86400)), .int (nI vh)]) (st := []) C koX5 t3.1 (c_tareOn_n t3 (by omega) h9) q278 q275 q276 q277 q2 rfl ⟨by decide, by decide⟩ (show (parseMethodDescriptor yX5_tareOn.desc).map (fun d => d.parameters.length) = some 2 by decide +kernel) (by decide) (by decide) (by decide) (by decide) (Nat.le_of_ble_eq_true rfl) rfl dX7_ticket_68 rfl ?_
  rintro v9 w8 ⟨rfl, rfl⟩
  show V g k 13 w 0 0 (kQ g k (fun v w' => v = some (.int (-1)) ∧ TcAt g w' a0 tk gN rN tN fn wn gp by9 rD tD tV tT ∧ Fl w w') 7 1015) 71 [(0, .ref a0), (1, .int (nI vh)), (2, .int (nI kd)), (3, .long (lN gr)), (5, .long (-1)), (7, .long (lN sc)), (9, .int (nI ps))] [.long (-1)]
  refine r_goto (tgt := 76) C dX7_ticket_71 (by decide) ?_
  refine r_lstore (q := 78) (lv' := [(10, .long (-1)), (0, .ref a0), (1, .int (nI vh)), (2, .int (nI kd)), (3, .long (lN gr)), (5, .long (-1)), (7, .long (lN sc)), (9, .int (nI ps))]) C dX7_ticket_76 (by decide) rfl rfl ?_
  refine r_iconst (q := 79) C (nI 4) dX7_ticket_78 (by decide) rfl ?_
  refine r_lload (q := 81) C 0 dX7_ticket_79 rfl rfl ?_
  refine r_callS (q := 84) (As := [.int (nI 4), .long (-1)]) (st := []) C (c_fits_n nok_m1) q154 q152 q153 q1 ⟨by decide, by decide⟩ (show (parseMethodDescriptor yX7_fits.desc).map (fun d => d.parameters.length) = some 2 by decide +kernel) (by decide) (by decide) (by decide) (by decide) (Nat.le_of_ble_eq_true rfl) rfl dX7_ticket_81 rfl ?_
  rintro v9 w9 ⟨rfl, rfl⟩
  show V g k 13 w 0 0 (kQ g k (fun v w' => v = some (.int (-1)) ∧ TcAt g w' a0 tk gN rN tN fn wn gp by9 rD tD tV tT ∧ Fl w w') 7 1015) 84 [(10, .long (-1)), (0, .ref a0), (1, .int (nI vh)), (2, .int (nI kd)), (3, .long (lN gr)), (5, .long (-1)), (7, .long (lN sc)), (9, .int (nI ps))] [.int (nI 0)]
  refine r_if_eq_t (tgt := 107) C dX7_ticket_84 (by decide) (by decide) ?_
  refine r_iconst (q := 108) C ((-1)) dX7_ticket_107 (by decide) rfl ?_
  exact r_iret C rfl (by decide) (by decide) dX7_ticket_108 ⟨rfl, hT, Fl.rfl'⟩

set_option maxHeartbeats 4000000 in
set_option maxRecDepth 20000 in
theorem x_tk_t {l : Launch} {g : cx_G} {w : wd_T} {c a0 tk gN rN tN : Nat} {fn wn : Nat → Nat} {gp by9 rD tD tV tT : Nat → Int32} (hT : TcAt g w a0 tk gN rN tN fn wn gp by9 rD tD tV tT) (hI : Iv9 c tk gN rN tN fn wn by9 tD tV tT) {vh kd gr sc ps : Nat} (h1v : vh ≤ 99) (h2v : kd ≤ 9) (h3v : gr ≤ 1000000000) (h6v : sc ≤ 8000000000) (h7v : ps ≤ 999) {tr : Int64} (ht1 : ¬ tr = -1) (ht2 : ¬ ok9 (nI 4) tr) : Mt l g yX7_ticket cX7_ticket 13 (some .int) 8 7 1015 w [.ref a0, .int (nI vh), .int (nI kd), .long (lN gr), .long tr, .long (lN sc), .int (nI ps)] (fun v w' => v = some (.int (-1)) ∧ TcAt g w' a0 tk gN rN tN fn wn gp by9 rD tD tV tT ∧ Fl w w') := by
  refine mt_of RX7 "ticket" rfl rfl (by decide) (Nat.le_of_ble_eq_true rfl) [(0, .ref a0), (1, .int (nI vh)), (2, .int (nI kd)), (3, .long (lN gr)), (5, .long tr), (7, .long (lN sc)), (9, .int (nI ps))] rfl ?_
  intro k hkl C hin
  subst hkl
  have hTk := hT
  obtain ⟨a1, alb, alk, asp, a3, alr, asu, alv, af, asg, elb, elk, er, ab, gp9, T, t0, t1, t2, t3, t4, t5, t6, t7, t8⟩ := hTk
  obtain ⟨i0, i1, i2, i3, i4, i5, i6, i7, i8, i9, i10⟩ := id hI
  have hp1 : cb9 1 := by unfold cb9; omega
  have hp2 : cb9 2 := by unfold cb9; omega
  have hp3 : cb9 3 := by unfold cb9; omega
  have hp4 : cb9 4 := by unfold cb9; omega
  have hp6 : cb9 6 := by unfold cb9; omega
  have hp7 : cb9 7 := by unfold cb9; omega
  refine r_iconst (q := 1) C (nI 1) dX7_ticket_0 (by decide) rfl ?_
  refine r_iload_n (q := 2) C 1 dX7_ticket_1 rfl rfl ?_
  refine r_i2l (q := 3) C dX7_ticket_2 rfl ?_
  refine r_tl (show ((nI vh).toInt64 : Int64) = lN vh from nI_l (by omega)) ?_
  refine r_callS (q := 6) (As := [.int (nI 1), .long (lN vh)]) (st := []) C (c_fits_y (f := 1) (n := vh) hp1 h1v) q154 q152 q153 q1 ⟨by decide, by decide⟩ (show (parseMethodDescriptor yX7_fits.desc).map (fun d => d.parameters.length) = some 2 by decide +kernel) (by decide) (by decide) (by decide) (by decide) (Nat.le_of_ble_eq_true rfl) rfl dX7_ticket_3 rfl ?_
  rintro v9 w1 ⟨rfl, rfl⟩
  show V g k 13 w 0 0 (kQ g k (fun v w' => v = some (.int (-1)) ∧ TcAt g w' a0 tk gN rN tN fn wn gp by9 rD tD tV tT ∧ Fl w w') 7 1015) 6 [(0, .ref a0), (1, .int (nI vh)), (2, .int (nI kd)), (3, .long (lN gr)), (5, .long tr), (7, .long (lN sc)), (9, .int (nI ps))] [.int (nI 1)]
  refine r_if_eq_f (q := 9) (tgt := 47) C dX7_ticket_6 (by decide) rfl (by decide) ?_
  refine r_iconst (q := 10) C (nI 2) dX7_ticket_9 (by decide) rfl ?_
  refine r_iload_n (q := 11) C 2 dX7_ticket_10 rfl rfl ?_
  refine r_i2l (q := 12) C dX7_ticket_11 rfl ?_
  refine r_tl (show ((nI kd).toInt64 : Int64) = lN kd from nI_l (by omega)) ?_
  refine r_callS (q := 15) (As := [.int (nI 2), .long (lN kd)]) (st := []) C (c_fits_y (f := 2) (n := kd) hp2 h2v) q154 q152 q153 q1 ⟨by decide, by decide⟩ (show (parseMethodDescriptor yX7_fits.desc).map (fun d => d.parameters.length) = some 2 by decide +kernel) (by decide) (by decide) (by decide) (by decide) (Nat.le_of_ble_eq_true rfl) rfl dX7_ticket_12 rfl ?_
  rintro v9 w2 ⟨rfl, rfl⟩
  show V g k 13 w 0 0 (kQ g k (fun v w' => v = some (.int (-1)) ∧ TcAt g w' a0 tk gN rN tN fn wn gp by9 rD tD tV tT ∧ Fl w w') 7 1015) 15 [(0, .ref a0), (1, .int (nI vh)), (2, .int (nI kd)), (3, .long (lN gr)), (5, .long tr), (7, .long (lN sc)), (9, .int (nI ps))] [.int (nI 1)]
  refine r_if_eq_f (q := 18) (tgt := 47) C dX7_ticket_15 (by decide) rfl (by decide) ?_
  refine r_iconst (q := 19) C (nI 3) dX7_ticket_18 (by decide) rfl ?_
  refine r_lload_n (q := 20) C 3 dX7_ticket_19 rfl rfl ?_
  refine r_callS (q := 23) (As := [.int (nI 3), .long (lN gr)]) (st := []) C (c_fits_y (f := 3) (n := gr) hp3 h3v) q154 q152 q153 q1 ⟨by decide, by decide⟩ (show (parseMethodDescriptor yX7_fits.desc).map (fun d => d.parameters.length) = some 2 by decide +kernel) (by decide) (by decide) (by decide) (by decide) (Nat.le_of_ble_eq_true rfl) rfl dX7_ticket_20 rfl ?_
  rintro v9 w3 ⟨rfl, rfl⟩
  show V g k 13 w 0 0 (kQ g k (fun v w' => v = some (.int (-1)) ∧ TcAt g w' a0 tk gN rN tN fn wn gp by9 rD tD tV tT ∧ Fl w w') 7 1015) 23 [(0, .ref a0), (1, .int (nI vh)), (2, .int (nI kd)), (3, .long (lN gr)), (5, .long tr), (7, .long (lN sc)), (9, .int (nI ps))] [.int (nI 1)]
  refine r_if_eq_f (q := 26) (tgt := 47) C dX7_ticket_23 (by decide) rfl (by decide) ?_
  refine r_bipush (q := 28) C (nI 6) dX7_ticket_26 (by decide) rfl ?_
  refine r_lload (q := 30) C 5 dX7_ticket_28 rfl rfl ?_
  refine r_callS (q := 33) (As := [.int (nI 6), .long (lN sc)]) (st := []) C (c_fits_y (f := 6) (n := sc) hp6 h6v) q154 q152 q153 q1 ⟨by decide, by decide⟩ (show (parseMethodDescriptor yX7_fits.desc).map (fun d => d.parameters.length) = some 2 by decide +kernel) (by decide) (by decide) (by decide) (by decide) (Nat.le_of_ble_eq_true rfl) rfl dX7_ticket_30 rfl ?_
  rintro v9 w4 ⟨rfl, rfl⟩
  show V g k 13 w 0 0 (kQ g k (fun v w' => v = some (.int (-1)) ∧ TcAt g w' a0 tk gN rN tN fn wn gp by9 rD tD tV tT ∧ Fl w w') 7 1015) 33 [(0, .ref a0), (1, .int (nI vh)), (2, .int (nI kd)), (3, .long (lN gr)), (5, .long tr), (7, .long (lN sc)), (9, .int (nI ps))] [.int (nI 1)]
  refine r_if_eq_f (q := 36) (tgt := 47) C dX7_ticket_33 (by decide) rfl (by decide) ?_
  refine r_bipush (q := 38) C (nI 7) dX7_ticket_36 (by decide) rfl ?_
  refine r_iload (q := 40) C 6 dX7_ticket_38 rfl rfl ?_
  refine r_i2l (q := 41) C dX7_ticket_40 rfl ?_
  refine r_tl (show ((nI ps).toInt64 : Int64) = lN ps from nI_l (by omega)) ?_
  refine r_callS (q := 44) (As := [.int (nI 7), .long (lN ps)]) (st := []) C (c_fits_y (f := 7) (n := ps) hp7 h7v) q154 q152 q153 q1 ⟨by decide, by decide⟩ (show (parseMethodDescriptor yX7_fits.desc).map (fun d => d.parameters.length) = some 2 by decide +kernel) (by decide) (by decide) (by decide) (by decide) (Nat.le_of_ble_eq_true rfl) rfl dX7_ticket_41 rfl ?_
  rintro v9 w5 ⟨rfl, rfl⟩
  show V g k 13 w 0 0 (kQ g k (fun v w' => v = some (.int (-1)) ∧ TcAt g w' a0 tk gN rN tN fn wn gp by9 rD tD tV tT ∧ Fl w w') 7 1015) 44 [(0, .ref a0), (1, .int (nI vh)), (2, .int (nI kd)), (3, .long (lN gr)), (5, .long tr), (7, .long (lN sc)), (9, .int (nI ps))] [.int (nI 1)]
  refine r_if_ne_t (tgt := 49) C dX7_ticket_44 (by decide) (by decide) ?_
  refine r_lload (q := 51) C 4 dX7_ticket_49 rfl rfl ?_
  refine r_ldc2 (q := 54) (v := (-1)) C dX7_ticket_51 q163 rfl ?_
  refine r_lcmp_ne (q := 55) (q2 := 58) (tgt := 74) C dX7_ticket_54 rfl dX7_ticket_55 (by decide) rfl (fun _ => ?_) (fun hz6 => absurd (ht1) (by first | exact hz6 | exact fun zz => zz hz6))
  refine r_lload (q := 76) C 4 dX7_ticket_74 rfl rfl ?_
  refine r_lstore (q := 78) (lv' := [(10, .long tr), (0, .ref a0), (1, .int (nI vh)), (2, .int (nI kd)), (3, .long (lN gr)), (5, .long tr), (7, .long (lN sc)), (9, .int (nI ps))]) C dX7_ticket_76 (by decide) rfl rfl ?_
  refine r_iconst (q := 79) C (nI 4) dX7_ticket_78 (by decide) rfl ?_
  refine r_lload (q := 81) C 0 dX7_ticket_79 rfl rfl ?_
  refine r_callS (q := 84) (As := [.int (nI 4), .long tr]) (st := []) C (c_fits_n ht2) q154 q152 q153 q1 ⟨by decide, by decide⟩ (show (parseMethodDescriptor yX7_fits.desc).map (fun d => d.parameters.length) = some 2 by decide +kernel) (by decide) (by decide) (by decide) (by decide) (Nat.le_of_ble_eq_true rfl) rfl dX7_ticket_81 rfl ?_
  rintro v9 w7 ⟨rfl, rfl⟩
  show V g k 13 w 0 0 (kQ g k (fun v w' => v = some (.int (-1)) ∧ TcAt g w' a0 tk gN rN tN fn wn gp by9 rD tD tV tT ∧ Fl w w') 7 1015) 84 [(10, .long tr), (0, .ref a0), (1, .int (nI vh)), (2, .int (nI kd)), (3, .long (lN gr)), (5, .long tr), (7, .long (lN sc)), (9, .int (nI ps))] [.int (nI 0)]
  refine r_if_eq_t (tgt := 107) C dX7_ticket_84 (by decide) (by decide) ?_
  refine r_iconst (q := 108) C ((-1)) dX7_ticket_107 (by decide) rfl ?_
  exact r_iret C rfl (by decide) (by decide) dX7_ticket_108 ⟨rfl, hT, Fl.rfl'⟩

set_option maxHeartbeats 4000000 in
set_option maxRecDepth 20000 in
theorem x_tk_s {l : Launch} {g : cx_G} {w : wd_T} {c a0 tk gN rN tN : Nat} {fn wn : Nat → Nat} {gp by9 rD tD tV tT : Nat → Int32} (hT : TcAt g w a0 tk gN rN tN fn wn gp by9 rD tD tV tT) (hI : Iv9 c tk gN rN tN fn wn by9 tD tV tT) {vh kd gr sc ps : Nat} (h1v : vh ≤ 99) (h2v : kd ≤ 9) (h3v : gr ≤ 1000000000) (h6v : sc ≤ 8000000000) (h7v : ps ≤ 999) {tr : Int64} {ta : Nat} (hta : ta ≤ 1000000000) (htr : tr = lN ta ∨ (tr = -1 ∧ ∃ k9, lu9 tD tV (nI (sc / 86400)) (nI vh) tN = some k9 ∧ tT k9 = nI ta)) (hg : gr < ta) : Mt l g yX7_ticket cX7_ticket 13 (some .int) 8 7 1015 w [.ref a0, .int (nI vh), .int (nI kd), .long (lN gr), .long tr, .long (lN sc), .int (nI ps)] (fun v w' => v = some (.int (-2)) ∧ TcAt g w' a0 tk (gN + 1) rN tN fn wn (upd gp gN (nI (tk + gN))) by9 rD tD tV tT ∧ Fl w w') := by
  refine mt_of RX7 "ticket" rfl rfl (by decide) (Nat.le_of_ble_eq_true rfl) [(0, .ref a0), (1, .int (nI vh)), (2, .int (nI kd)), (3, .long (lN gr)), (5, .long tr), (7, .long (lN sc)), (9, .int (nI ps))] rfl ?_
  intro k hkl C hin
  subst hkl
  have hTk := hT
  obtain ⟨a1, alb, alk, asp, a3, alr, asu, alv, af, asg, elb, elk, er, ab, gp9, T, t0, t1, t2, t3, t4, t5, t6, t7, t8⟩ := hTk
  obtain ⟨i0, i1, i2, i3, i4, i5, i6, i7, i8, i9, i10⟩ := id hI
  have hp1 : cb9 1 := by unfold cb9; omega
  have hp2 : cb9 2 := by unfold cb9; omega
  have hp3 : cb9 3 := by unfold cb9; omega
  have hp4 : cb9 4 := by unfold cb9; omega
  have hp6 : cb9 6 := by unfold cb9; omega
  have hp7 : cb9 7 := by unfold cb9; omega
  refine r_iconst (q := 1) C (nI 1) dX7_ticket_0 (by decide) rfl ?_
  refine r_iload_n (q := 2) C 1 dX7_ticket_1 rfl rfl ?_
  refine r_i2l (q := 3) C dX7_ticket_2 rfl ?_
  refine r_tl (show ((nI vh).toInt64 : Int64) = lN vh from nI_l (by omega)) ?_
  refine r_callS (q := 6) (As := [.int (nI 1), .long (lN vh)]) (st := []) C (c_fits_y (f := 1) (n := vh) hp1 h1v) q154 q152 q153 q1 ⟨by decide, by decide⟩ (show (parseMethodDescriptor yX7_fits.desc).map (fun d => d.parameters.length) = some 2 by decide +kernel) (by decide) (by decide) (by decide) (by decide) (Nat.le_of_ble_eq_true rfl) rfl dX7_ticket_3 rfl ?_
  rintro v9 w1 ⟨rfl, rfl⟩
  show V g k 13 w 0 0 (kQ g k (fun v w' => v = some (.int (-2)) ∧ TcAt g w' a0 tk (gN + 1) rN tN fn wn (upd gp gN (nI (tk + gN))) by9 rD tD tV tT ∧ Fl w w') 7 1015) 6 [(0, .ref a0), (1, .int (nI vh)), (2, .int (nI kd)), (3, .long (lN gr)), (5, .long tr), (7, .long (lN sc)), (9, .int (nI ps))] [.int (nI 1)]
  refine r_if_eq_f (q := 9) (tgt := 47) C dX7_ticket_6 (by decide) rfl (by decide) ?_
  refine r_iconst (q := 10) C (nI 2) dX7_ticket_9 (by decide) rfl ?_
  refine r_iload_n (q := 11) C 2 dX7_ticket_10 rfl rfl ?_
  refine r_i2l (q := 12) C dX7_ticket_11 rfl ?_
  refine r_tl (show ((nI kd).toInt64 : Int64) = lN kd from nI_l (by omega)) ?_
  refine r_callS (q := 15) (As := [.int (nI 2), .long (lN kd)]) (st := []) C (c_fits_y (f := 2) (n := kd) hp2 h2v) q154 q152 q153 q1 ⟨by decide, by decide⟩ (show (parseMethodDescriptor yX7_fits.desc).map (fun d => d.parameters.length) = some 2 by decide +kernel) (by decide) (by decide) (by decide) (by decide) (Nat.le_of_ble_eq_true rfl) rfl dX7_ticket_12 rfl ?_
  rintro v9 w2 ⟨rfl, rfl⟩
  show V g k 13 w 0 0 (kQ g k (fun v w' => v = some (.int (-2)) ∧ TcAt g w' a0 tk (gN + 1) rN tN fn wn (upd gp gN (nI (tk + gN))) by9 rD tD tV tT ∧ Fl w w') 7 1015) 15 [(0, .ref a0), (1, .int (nI vh)), (2, .int (nI kd)), (3, .long (lN gr)), (5, .long tr), (7, .long (lN sc)), (9, .int (nI ps))] [.int (nI 1)]
  refine r_if_eq_f (q := 18) (tgt := 47) C dX7_ticket_15 (by decide) rfl (by decide) ?_
  refine r_iconst (q := 19) C (nI 3) dX7_ticket_18 (by decide) rfl ?_
  refine r_lload_n (q := 20) C 3 dX7_ticket_19 rfl rfl ?_
  refine r_callS (q := 23) (As := [.int (nI 3), .long (lN gr)]) (st := []) C (c_fits_y (f := 3) (n := gr) hp3 h3v) q154 q152 q153 q1 ⟨by decide, by decide⟩ (show (parseMethodDescriptor yX7_fits.desc).map (fun d => d.parameters.length) = some 2 by decide +kernel) (by decide) (by decide) (by decide) (by decide) (Nat.le_of_ble_eq_true rfl) rfl dX7_ticket_20 rfl ?_
  rintro v9 w3 ⟨rfl, rfl⟩
  show V g k 13 w 0 0 (kQ g k (fun v w' => v = some (.int (-2)) ∧ TcAt g w' a0 tk (gN + 1) rN tN fn wn (upd gp gN (nI (tk + gN))) by9 rD tD tV tT ∧ Fl w w') 7 1015) 23 [(0, .ref a0), (1, .int (nI vh)), (2, .int (nI kd)), (3, .long (lN gr)), (5, .long tr), (7, .long (lN sc)), (9, .int (nI ps))] [.int (nI 1)]
  refine r_if_eq_f (q := 26) (tgt := 47) C dX7_ticket_23 (by decide) rfl (by decide) ?_
  refine r_bipush (q := 28) C (nI 6) dX7_ticket_26 (by decide) rfl ?_
  refine r_lload (q := 30) C 5 dX7_ticket_28 rfl rfl ?_
  refine r_callS (q := 33) (As := [.int (nI 6), .long (lN sc)]) (st := []) C (c_fits_y (f := 6) (n := sc) hp6 h6v) q154 q152 q153 q1 ⟨by decide, by decide⟩ (show (parseMethodDescriptor yX7_fits.desc).map (fun d => d.parameters.length) = some 2 by decide +kernel) (by decide) (by decide) (by decide) (by decide) (Nat.le_of_ble_eq_true rfl) rfl dX7_ticket_30 rfl ?_
  rintro v9 w4 ⟨rfl, rfl⟩
  show V g k 13 w 0 0 (kQ g k (fun v w' => v = some (.int (-2)) ∧ TcAt g w' a0 tk (gN + 1) rN tN fn wn (upd gp gN (nI (tk + gN))) by9 rD tD tV tT ∧ Fl w w') 7 1015) 33 [(0, .ref a0), (1, .int (nI vh)), (2, .int (nI kd)), (3, .long (lN gr)), (5, .long tr), (7, .long (lN sc)), (9, .int (nI ps))] [.int (nI 1)]
  refine r_if_eq_f (q := 36) (tgt := 47) C dX7_ticket_33 (by decide) rfl (by decide) ?_
  refine r_bipush (q := 38) C (nI 7) dX7_ticket_36 (by decide) rfl ?_
  refine r_iload (q := 40) C 6 dX7_ticket_38 rfl rfl ?_
  refine r_i2l (q := 41) C dX7_ticket_40 rfl ?_
  refine r_tl (show ((nI ps).toInt64 : Int64) = lN ps from nI_l (by omega)) ?_
  refine r_callS (q := 44) (As := [.int (nI 7), .long (lN ps)]) (st := []) C (c_fits_y (f := 7) (n := ps) hp7 h7v) q154 q152 q153 q1 ⟨by decide, by decide⟩ (show (parseMethodDescriptor yX7_fits.desc).map (fun d => d.parameters.length) = some 2 by decide +kernel) (by decide) (by decide) (by decide) (by decide) (Nat.le_of_ble_eq_true rfl) rfl dX7_ticket_41 rfl ?_
  rintro v9 w5 ⟨rfl, rfl⟩
  show V g k 13 w 0 0 (kQ g k (fun v w' => v = some (.int (-2)) ∧ TcAt g w' a0 tk (gN + 1) rN tN fn wn (upd gp gN (nI (tk + gN))) by9 rD tD tV tT ∧ Fl w w') 7 1015) 44 [(0, .ref a0), (1, .int (nI vh)), (2, .int (nI kd)), (3, .long (lN gr)), (5, .long tr), (7, .long (lN sc)), (9, .int (nI ps))] [.int (nI 1)]
  refine r_if_ne_t (tgt := 49) C dX7_ticket_44 (by decide) (by decide) ?_
  refine r_lload (q := 51) C 4 dX7_ticket_49 rfl rfl ?_
  refine r_ldc2 (q := 54) (v := (-1)) C dX7_ticket_51 q163 rfl ?_
  have fin : V g k 13 w 0 0 (kQ g k (fun v w' => v = some (.int (-2)) ∧ TcAt g w' a0 tk (gN + 1) rN tN fn wn (upd gp gN (nI (tk + gN))) by9 rD tD tV tT ∧ Fl w w') 7 1015) 76 [(0, .ref a0), (1, .int (nI vh)), (2, .int (nI kd)), (3, .long (lN gr)), (5, .long tr), (7, .long (lN sc)), (9, .int (nI ps))] [.long (lN ta)] := by
    refine r_lstore (q := 78) (lv' := [(10, .long (lN ta)), (0, .ref a0), (1, .int (nI vh)), (2, .int (nI kd)), (3, .long (lN gr)), (5, .long tr), (7, .long (lN sc)), (9, .int (nI ps))]) C dX7_ticket_76 (by decide) rfl rfl ?_
    refine r_iconst (q := 79) C (nI 4) dX7_ticket_78 (by decide) rfl ?_
    refine r_lload (q := 81) C 0 dX7_ticket_79 rfl rfl ?_
    refine r_callS (q := 84) (As := [.int (nI 4), .long (lN ta)]) (st := []) C (c_fits_y (f := 4) (n := ta) hp4 hta) q154 q152 q153 q1 ⟨by decide, by decide⟩ (show (parseMethodDescriptor yX7_fits.desc).map (fun d => d.parameters.length) = some 2 by decide +kernel) (by decide) (by decide) (by decide) (by decide) (Nat.le_of_ble_eq_true rfl) rfl dX7_ticket_81 rfl ?_
    rintro v9 w6 ⟨rfl, rfl⟩
    show V g k 13 w 0 0 (kQ g k (fun v w' => v = some (.int (-2)) ∧ TcAt g w' a0 tk (gN + 1) rN tN fn wn (upd gp gN (nI (tk + gN))) by9 rD tD tV tT ∧ Fl w w') 7 1015) 84 [(10, .long (lN ta)), (0, .ref a0), (1, .int (nI vh)), (2, .int (nI kd)), (3, .long (lN gr)), (5, .long tr), (7, .long (lN sc)), (9, .int (nI ps))] [.int (nI 1)]
    refine r_if_eq_f (q := 87) (tgt := 107) C dX7_ticket_84 (by decide) rfl (by decide) ?_
    refine r_aload_n (q := 88) C 1 dX7_ticket_87 rfl rfl ?_
    refine r_get (q := 91) (t := 100) C koX7 t0 5 (by decide) q130 rfl rfl dX7_ticket_88 rfl ?_
    refine r_callV (q := 94) (t := 103) (As := []) (st := []) C koX0 t6.1 (c_isFull t6 (by omega)) q283 q280 q281 q282 q6 rfl ⟨by decide, by decide⟩ (show (parseMethodDescriptor yX0_isFull.desc).map (fun d => d.parameters.length) = some 0 by decide +kernel) (by decide) (by decide) (by decide) (by decide) (Nat.le_of_ble_eq_true rfl) rfl dX7_ticket_91 rfl ?_
    rintro v9 w7 ⟨rfl, rfl⟩
    show V g k 13 w 0 0 (kQ g k (fun v w' => v = some (.int (-2)) ∧ TcAt g w' a0 tk (gN + 1) rN tN fn wn (upd gp gN (nI (tk + gN))) by9 rD tD tV tT ∧ Fl w w') 7 1015) 94 [(10, .long (lN ta)), (0, .ref a0), (1, .int (nI vh)), (2, .int (nI kd)), (3, .long (lN gr)), (5, .long tr), (7, .long (lN sc)), (9, .int (nI ps))] [.int (nI 0)]
    refine r_if_ne_f (q := 97) (tgt := 107) C dX7_ticket_94 (by decide) rfl (by decide) ?_
    refine r_aload_n (q := 98) C 1 dX7_ticket_97 rfl rfl ?_
    refine r_get (q := 101) (t := 100) C koX7 t0 4 (by decide) q129 rfl rfl dX7_ticket_98 rfl ?_
    refine r_sipush (q := 104) C (nI 400) dX7_ticket_101 (by decide) rfl ?_
    refine r_icmp_lt_t (tgt := 109) C dX7_ticket_104 (by decide) ((nI_ltI (a := (tk + gN)) (b := 400) (by omega) (by omega)).mpr (by omega)) ?_
    refine r_lload_n (q := 110) C 4 dX7_ticket_109 rfl rfl ?_
    refine r_lload (q := 112) C 0 dX7_ticket_110 rfl rfl ?_
    refine r_lcmp_ge (q := 113) (q2 := 116) (tgt := 121) C dX7_ticket_112 rfl dX7_ticket_113 (by decide) rfl (fun hz8 => absurd (fun z => absurd ((pk_lLE (a := ta) (b := gr) (by omega) (by omega)).mp z) (by omega)) (by first | exact hz8 | exact fun zz => zz hz8)) (fun _ => ?_)
    refine r_aload_n (q := 117) C 1 dX7_ticket_116 rfl rfl ?_
    refine r_callV (q := 120) (t := 100) (As := []) (st := []) C koX7 t0 (c_spoil t0 t1 (by omega) (by omega)) q288 q285 q287 qp4 q1 rfl ⟨by decide, by decide⟩ (show (parseMethodDescriptor yX7_spoilNumber.desc).map (fun d => d.parameters.length) = some 0 by decide +kernel) (by decide) (by decide) (by decide) (by decide) (Nat.le_of_ble_eq_true rfl) rfl dX7_ticket_117 rfl ?_
    rintro v9 w5 ⟨rfl, e0, e1, ef⟩
    show V g k 13 w5 0 0 (kQ g k (fun v w' => v = some (.int (-2)) ∧ TcAt g w' a0 tk (gN + 1) rN tN fn wn (upd gp gN (nI (tk + gN))) by9 rD tD tV tT ∧ Fl w w') 7 1015) 120 [(10, .long (lN ta)), (0, .ref a0), (1, .int (nI vh)), (2, .int (nI kd)), (3, .long (lN gr)), (5, .long tr), (7, .long (lN sc)), (9, .int (nI ps))] [.int (-2)]
    have k5 : ∀ t, (t ≠ 100 ∧ t ≠ 102) → w5 t = w t := fun t h => ef t h.1 h.2
    refine r_iret C rfl (by decide) (by decide) dX7_ticket_120 ⟨rfl, ⟨a1, alb, alk, asp, a3, alr, asu, alv, af, asg, elb, elk, er, ab, _, T, e0, e1, (fun j hj => ?_), t3.kept (by omega) (fun t ht => k5 t (by omega)), t4.keptT (by omega) (k5 123 (by omega)) (k5 124 (by omega)) (fun t _ _ => k5 t (by omega)), t5.kept (by omega) (fun t _ _ => k5 t (by omega)), t6.keptC (by omega) (fun t ht => k5 t (by omega)), t7.kept (k5 115 (by omega)) (k5 116 (by omega)), t8⟩, fun t ht => k5 t (by omega)⟩
    unfold upd
    by_cases z : j = gN
    · rw [if_pos z, if_pos z]
    · rw [if_neg z, if_neg z, t2 j (by omega)]
  rcases htr with rfl | ⟨rfl, k9, hk1, hk2⟩
  · refine r_lcmp_ne (q := 55) (q2 := 58) (tgt := 74) C dX7_ticket_54 rfl dX7_ticket_55 (by decide) rfl (fun _ => ?_) (fun hz10 => absurd (ne_m1 (n := ta) (by omega)) (by first | exact hz10 | exact fun zz => zz hz10))
    refine r_lload (q := 76) C 4 dX7_ticket_74 rfl rfl ?_
    exact fin
  · refine r_lcmp_ne (q := 55) (q2 := 58) (tgt := 74) C dX7_ticket_54 rfl dX7_ticket_55 (by decide) rfl (fun hz11 => absurd (rfl) (by first | exact hz11 | exact fun zz => zz hz11)) (fun _ => ?_)
    refine r_aload_n (q := 59) C 0 dX7_ticket_58 rfl rfl ?_
    refine r_get (q := 62) (t := 100) C koX7 t0 0 (by decide) q125 rfl rfl dX7_ticket_59 rfl ?_
    refine r_lload (q := 64) C 5 dX7_ticket_62 rfl rfl ?_
    refine r_callS (q := 67) (As := [.long (lN sc)]) (st := [.ref a1]) C (c_dayOf h6v) q273 q271 q272 q1 ⟨by decide, by decide⟩ (show (parseMethodDescriptor yX7_dayOf.desc).map (fun d => d.parameters.length) = some 1 by decide +kernel) (by decide) (by decide) (by decide) (by decide) (Nat.le_of_ble_eq_true rfl) rfl dX7_ticket_64 rfl ?_
    rintro v9 w12 ⟨rfl, rfl⟩
    show V g k 13 w 0 0 (kQ g k (fun v w' => v = some (.int (-2)) ∧ TcAt g w' a0 tk (gN + 1) rN tN fn wn (upd gp gN (nI (tk + gN))) by9 rD tD tV tT ∧ Fl w w') 7 1015) 67 [(0, .ref a0), (1, .int (nI vh)), (2, .int (nI kd)), (3, .long (lN gr)), (5, .long (-1)), (7, .long (lN sc)), (9, .int (nI ps))] [.int (nI (sc / 86400)), .ref a1]
    refine r_iload_n (q := 68) C 1 dX7_ticket_67 rfl rfl ?_
    refine r_callV (q := 71) (t := 101) (As := [.int (nI (sc / 86400)), .int (nI vh)]) (st := []) C koX5 t3.1 (c_tareOn_y t3 (by omega) hk1) q278 q275 q276 q277 q2 rfl ⟨by decide, by decide⟩ (show (parseMethodDescriptor yX5_tareOn.desc).map (fun d => d.parameters.length) = some 2 by decide +kernel) (by decide) (by decide) (by decide) (by decide) (Nat.le_of_ble_eq_true rfl) rfl dX7_ticket_68 rfl ?_
    rintro v9 w13 ⟨rfl, rfl⟩
    show V g k 13 w 0 0 (kQ g k (fun v w' => v = some (.int (-2)) ∧ TcAt g w' a0 tk (gN + 1) rN tN fn wn (upd gp gN (nI (tk + gN))) by9 rD tD tV tT ∧ Fl w w') 7 1015) 71 [(0, .ref a0), (1, .int (nI vh)), (2, .int (nI kd)), (3, .long (lN gr)), (5, .long (-1)), (7, .long (lN sc)), (9, .int (nI ps))] [.long ((tT k9).toInt64)]
    refine r_tl (show ((tT k9).toInt64 : Int64) = lN ta from by rw [hk2]; exact nI_l (by omega)) ?_
    refine r_goto (tgt := 76) C dX7_ticket_71 (by decide) ?_
    exact fin

set_option maxHeartbeats 4000000 in
set_option maxRecDepth 20000 in
theorem x_tk_y {l : Launch} {g : cx_G} {w : wd_T} {c a0 tk gN rN tN : Nat} {fn wn : Nat → Nat} {gp by9 rD tD tV tT : Nat → Int32} (hT : TcAt g w a0 tk gN rN tN fn wn gp by9 rD tD tV tT) (hI : Iv9 c tk gN rN tN fn wn by9 tD tV tT) {vh kd gr sc ps : Nat} (h1v : vh ≤ 99) (h2v : kd ≤ 9) (h3v : gr ≤ 1000000000) (h6v : sc ≤ 8000000000) (h7v : ps ≤ 999) {tr : Int64} {ta : Nat} (hta : ta ≤ 1000000000) (htr : tr = lN ta ∨ (tr = -1 ∧ ∃ k9, lu9 tD tV (nI (sc / 86400)) (nI vh) tN = some k9 ∧ tT k9 = nI ta)) (hg : ta ≤ gr) : Mt l g yX7_ticket cX7_ticket 13 (some .int) 8 7 1015 w [.ref a0, .int (nI vh), .int (nI kd), .long (lN gr), .long tr, .long (lN sc), .int (nI ps)] (fun v w' => v = some (.int (nI tk)) ∧ TcAt g w' a0 (tk + 1) gN (rN + 1) tN (stF fn tk (nwL (tk + gN) vh kd gr ta sc ps)) wn gp (apR by9 rN (tkB (tk + gN) vh kd gr ta sc ps)) (upd rD rN (nI (sc / 86400))) tD tV tT ∧ Fl w w') := by
  refine mt_of RX7 "ticket" rfl rfl (by decide) (Nat.le_of_ble_eq_true rfl) [(0, .ref a0), (1, .int (nI vh)), (2, .int (nI kd)), (3, .long (lN gr)), (5, .long tr), (7, .long (lN sc)), (9, .int (nI ps))] rfl ?_
  intro k hkl C hin
  subst hkl
  have hTk := hT
  obtain ⟨a1, alb, alk, asp, a3, alr, asu, alv, af, asg, elb, elk, er, ab, gp9, T, t0, t1, t2, t3, t4, t5, t6, t7, t8⟩ := hTk
  obtain ⟨i0, i1, i2, i3, i4, i5, i6, i7, i8, i9, i10⟩ := id hI
  have hp1 : cb9 1 := by unfold cb9; omega
  have hp2 : cb9 2 := by unfold cb9; omega
  have hp3 : cb9 3 := by unfold cb9; omega
  have hp4 : cb9 4 := by unfold cb9; omega
  have hp6 : cb9 6 := by unfold cb9; omega
  have hp7 : cb9 7 := by unfold cb9; omega
  refine r_iconst (q := 1) C (nI 1) dX7_ticket_0 (by decide) rfl ?_
  refine r_iload_n (q := 2) C 1 dX7_ticket_1 rfl rfl ?_
  refine r_i2l (q := 3) C dX7_ticket_2 rfl ?_
  refine r_tl (show ((nI vh).toInt64 : Int64) = lN vh from nI_l (by omega)) ?_
  refine r_callS (q := 6) (As := [.int (nI 1), .long (lN vh)]) (st := []) C (c_fits_y (f := 1) (n := vh) hp1 h1v) q154 q152 q153 q1 ⟨by decide, by decide⟩ (show (parseMethodDescriptor yX7_fits.desc).map (fun d => d.parameters.length) = some 2 by decide +kernel) (by decide) (by decide) (by decide) (by decide) (Nat.le_of_ble_eq_true rfl) rfl dX7_ticket_3 rfl ?_
  rintro v9 w1 ⟨rfl, rfl⟩
  show V g k 13 w 0 0 (kQ g k (fun v w' => v = some (.int (nI tk)) ∧ TcAt g w' a0 (tk + 1) gN (rN + 1) tN (stF fn tk (nwL (tk + gN) vh kd gr ta sc ps)) wn gp (apR by9 rN (tkB (tk + gN) vh kd gr ta sc ps)) (upd rD rN (nI (sc / 86400))) tD tV tT ∧ Fl w w') 7 1015) 6 [(0, .ref a0), (1, .int (nI vh)), (2, .int (nI kd)), (3, .long (lN gr)), (5, .long tr), (7, .long (lN sc)), (9, .int (nI ps))] [.int (nI 1)]
  refine r_if_eq_f (q := 9) (tgt := 47) C dX7_ticket_6 (by decide) rfl (by decide) ?_
  refine r_iconst (q := 10) C (nI 2) dX7_ticket_9 (by decide) rfl ?_
  refine r_iload_n (q := 11) C 2 dX7_ticket_10 rfl rfl ?_
  refine r_i2l (q := 12) C dX7_ticket_11 rfl ?_
  refine r_tl (show ((nI kd).toInt64 : Int64) = lN kd from nI_l (by omega)) ?_
  refine r_callS (q := 15) (As := [.int (nI 2), .long (lN kd)]) (st := []) C (c_fits_y (f := 2) (n := kd) hp2 h2v) q154 q152 q153 q1 ⟨by decide, by decide⟩ (show (parseMethodDescriptor yX7_fits.desc).map (fun d => d.parameters.length) = some 2 by decide +kernel) (by decide) (by decide) (by decide) (by decide) (Nat.le_of_ble_eq_true rfl) rfl dX7_ticket_12 rfl ?_
  rintro v9 w2 ⟨rfl, rfl⟩
  show V g k 13 w 0 0 (kQ g k (fun v w' => v = some (.int (nI tk)) ∧ TcAt g w' a0 (tk + 1) gN (rN + 1) tN (stF fn tk (nwL (tk + gN) vh kd gr ta sc ps)) wn gp (apR by9 rN (tkB (tk + gN) vh kd gr ta sc ps)) (upd rD rN (nI (sc / 86400))) tD tV tT ∧ Fl w w') 7 1015) 15 [(0, .ref a0), (1, .int (nI vh)), (2, .int (nI kd)), (3, .long (lN gr)), (5, .long tr), (7, .long (lN sc)), (9, .int (nI ps))] [.int (nI 1)]
  refine r_if_eq_f (q := 18) (tgt := 47) C dX7_ticket_15 (by decide) rfl (by decide) ?_
  refine r_iconst (q := 19) C (nI 3) dX7_ticket_18 (by decide) rfl ?_
  refine r_lload_n (q := 20) C 3 dX7_ticket_19 rfl rfl ?_
  refine r_callS (q := 23) (As := [.int (nI 3), .long (lN gr)]) (st := []) C (c_fits_y (f := 3) (n := gr) hp3 h3v) q154 q152 q153 q1 ⟨by decide, by decide⟩ (show (parseMethodDescriptor yX7_fits.desc).map (fun d => d.parameters.length) = some 2 by decide +kernel) (by decide) (by decide) (by decide) (by decide) (Nat.le_of_ble_eq_true rfl) rfl dX7_ticket_20 rfl ?_
  rintro v9 w3 ⟨rfl, rfl⟩
  show V g k 13 w 0 0 (kQ g k (fun v w' => v = some (.int (nI tk)) ∧ TcAt g w' a0 (tk + 1) gN (rN + 1) tN (stF fn tk (nwL (tk + gN) vh kd gr ta sc ps)) wn gp (apR by9 rN (tkB (tk + gN) vh kd gr ta sc ps)) (upd rD rN (nI (sc / 86400))) tD tV tT ∧ Fl w w') 7 1015) 23 [(0, .ref a0), (1, .int (nI vh)), (2, .int (nI kd)), (3, .long (lN gr)), (5, .long tr), (7, .long (lN sc)), (9, .int (nI ps))] [.int (nI 1)]
  refine r_if_eq_f (q := 26) (tgt := 47) C dX7_ticket_23 (by decide) rfl (by decide) ?_
  refine r_bipush (q := 28) C (nI 6) dX7_ticket_26 (by decide) rfl ?_
  refine r_lload (q := 30) C 5 dX7_ticket_28 rfl rfl ?_
  refine r_callS (q := 33) (As := [.int (nI 6), .long (lN sc)]) (st := []) C (c_fits_y (f := 6) (n := sc) hp6 h6v) q154 q152 q153 q1 ⟨by decide, by decide⟩ (show (parseMethodDescriptor yX7_fits.desc).map (fun d => d.parameters.length) = some 2 by decide +kernel) (by decide) (by decide) (by decide) (by decide) (Nat.le_of_ble_eq_true rfl) rfl dX7_ticket_30 rfl ?_
  rintro v9 w4 ⟨rfl, rfl⟩
  show V g k 13 w 0 0 (kQ g k (fun v w' => v = some (.int (nI tk)) ∧ TcAt g w' a0 (tk + 1) gN (rN + 1) tN (stF fn tk (nwL (tk + gN) vh kd gr ta sc ps)) wn gp (apR by9 rN (tkB (tk + gN) vh kd gr ta sc ps)) (upd rD rN (nI (sc / 86400))) tD tV tT ∧ Fl w w') 7 1015) 33 [(0, .ref a0), (1, .int (nI vh)), (2, .int (nI kd)), (3, .long (lN gr)), (5, .long tr), (7, .long (lN sc)), (9, .int (nI ps))] [.int (nI 1)]
  refine r_if_eq_f (q := 36) (tgt := 47) C dX7_ticket_33 (by decide) rfl (by decide) ?_
  refine r_bipush (q := 38) C (nI 7) dX7_ticket_36 (by decide) rfl ?_
  refine r_iload (q := 40) C 6 dX7_ticket_38 rfl rfl ?_
  refine r_i2l (q := 41) C dX7_ticket_40 rfl ?_
  refine r_tl (show ((nI ps).toInt64 : Int64) = lN ps from nI_l (by omega)) ?_
  refine r_callS (q := 44) (As := [.int (nI 7), .long (lN ps)]) (st := []) C (c_fits_y (f := 7) (n := ps) hp7 h7v) q154 q152 q153 q1 ⟨by decide, by decide⟩ (show (parseMethodDescriptor yX7_fits.desc).map (fun d => d.parameters.length) = some 2 by decide +kernel) (by decide) (by decide) (by decide) (by decide) (Nat.le_of_ble_eq_true rfl) rfl dX7_ticket_41 rfl ?_
  rintro v9 w5 ⟨rfl, rfl⟩
  show V g k 13 w 0 0 (kQ g k (fun v w' => v = some (.int (nI tk)) ∧ TcAt g w' a0 (tk + 1) gN (rN + 1) tN (stF fn tk (nwL (tk + gN) vh kd gr ta sc ps)) wn gp (apR by9 rN (tkB (tk + gN) vh kd gr ta sc ps)) (upd rD rN (nI (sc / 86400))) tD tV tT ∧ Fl w w') 7 1015) 44 [(0, .ref a0), (1, .int (nI vh)), (2, .int (nI kd)), (3, .long (lN gr)), (5, .long tr), (7, .long (lN sc)), (9, .int (nI ps))] [.int (nI 1)]
  refine r_if_ne_t (tgt := 49) C dX7_ticket_44 (by decide) (by decide) ?_
  refine r_lload (q := 51) C 4 dX7_ticket_49 rfl rfl ?_
  refine r_ldc2 (q := 54) (v := (-1)) C dX7_ticket_51 q163 rfl ?_
  have fin : V g k 13 w 0 0 (kQ g k (fun v w' => v = some (.int (nI tk)) ∧ TcAt g w' a0 (tk + 1) gN (rN + 1) tN (stF fn tk (nwL (tk + gN) vh kd gr ta sc ps)) wn gp (apR by9 rN (tkB (tk + gN) vh kd gr ta sc ps)) (upd rD rN (nI (sc / 86400))) tD tV tT ∧ Fl w w') 7 1015) 76 [(0, .ref a0), (1, .int (nI vh)), (2, .int (nI kd)), (3, .long (lN gr)), (5, .long tr), (7, .long (lN sc)), (9, .int (nI ps))] [.long (lN ta)] := by
    refine r_lstore (q := 78) (lv' := [(10, .long (lN ta)), (0, .ref a0), (1, .int (nI vh)), (2, .int (nI kd)), (3, .long (lN gr)), (5, .long tr), (7, .long (lN sc)), (9, .int (nI ps))]) C dX7_ticket_76 (by decide) rfl rfl ?_
    refine r_iconst (q := 79) C (nI 4) dX7_ticket_78 (by decide) rfl ?_
    refine r_lload (q := 81) C 0 dX7_ticket_79 rfl rfl ?_
    refine r_callS (q := 84) (As := [.int (nI 4), .long (lN ta)]) (st := []) C (c_fits_y (f := 4) (n := ta) hp4 hta) q154 q152 q153 q1 ⟨by decide, by decide⟩ (show (parseMethodDescriptor yX7_fits.desc).map (fun d => d.parameters.length) = some 2 by decide +kernel) (by decide) (by decide) (by decide) (by decide) (Nat.le_of_ble_eq_true rfl) rfl dX7_ticket_81 rfl ?_
    rintro v9 w6 ⟨rfl, rfl⟩
    show V g k 13 w 0 0 (kQ g k (fun v w' => v = some (.int (nI tk)) ∧ TcAt g w' a0 (tk + 1) gN (rN + 1) tN (stF fn tk (nwL (tk + gN) vh kd gr ta sc ps)) wn gp (apR by9 rN (tkB (tk + gN) vh kd gr ta sc ps)) (upd rD rN (nI (sc / 86400))) tD tV tT ∧ Fl w w') 7 1015) 84 [(10, .long (lN ta)), (0, .ref a0), (1, .int (nI vh)), (2, .int (nI kd)), (3, .long (lN gr)), (5, .long tr), (7, .long (lN sc)), (9, .int (nI ps))] [.int (nI 1)]
    refine r_if_eq_f (q := 87) (tgt := 107) C dX7_ticket_84 (by decide) rfl (by decide) ?_
    refine r_aload_n (q := 88) C 1 dX7_ticket_87 rfl rfl ?_
    refine r_get (q := 91) (t := 100) C koX7 t0 5 (by decide) q130 rfl rfl dX7_ticket_88 rfl ?_
    refine r_callV (q := 94) (t := 103) (As := []) (st := []) C koX0 t6.1 (c_isFull t6 (by omega)) q283 q280 q281 q282 q6 rfl ⟨by decide, by decide⟩ (show (parseMethodDescriptor yX0_isFull.desc).map (fun d => d.parameters.length) = some 0 by decide +kernel) (by decide) (by decide) (by decide) (by decide) (Nat.le_of_ble_eq_true rfl) rfl dX7_ticket_91 rfl ?_
    rintro v9 w7 ⟨rfl, rfl⟩
    show V g k 13 w 0 0 (kQ g k (fun v w' => v = some (.int (nI tk)) ∧ TcAt g w' a0 (tk + 1) gN (rN + 1) tN (stF fn tk (nwL (tk + gN) vh kd gr ta sc ps)) wn gp (apR by9 rN (tkB (tk + gN) vh kd gr ta sc ps)) (upd rD rN (nI (sc / 86400))) tD tV tT ∧ Fl w w') 7 1015) 94 [(10, .long (lN ta)), (0, .ref a0), (1, .int (nI vh)), (2, .int (nI kd)), (3, .long (lN gr)), (5, .long tr), (7, .long (lN sc)), (9, .int (nI ps))] [.int (nI 0)]
    refine r_if_ne_f (q := 97) (tgt := 107) C dX7_ticket_94 (by decide) rfl (by decide) ?_
    refine r_aload_n (q := 98) C 1 dX7_ticket_97 rfl rfl ?_
    refine r_get (q := 101) (t := 100) C koX7 t0 4 (by decide) q129 rfl rfl dX7_ticket_98 rfl ?_
    refine r_sipush (q := 104) C (nI 400) dX7_ticket_101 (by decide) rfl ?_
    refine r_icmp_lt_t (tgt := 109) C dX7_ticket_104 (by decide) ((nI_ltI (a := (tk + gN)) (b := 400) (by omega) (by omega)).mpr (by omega)) ?_
    refine r_lload_n (q := 110) C 4 dX7_ticket_109 rfl rfl ?_
    refine r_lload (q := 112) C 0 dX7_ticket_110 rfl rfl ?_
    refine r_lcmp_ge (q := 113) (q2 := 116) (tgt := 121) C dX7_ticket_112 rfl dX7_ticket_113 (by decide) rfl (fun _ => ?_) (fun hz8 => absurd ((pk_lLE (a := ta) (b := gr) (by omega) (by omega)).mpr (by omega)) (by first | exact hz8 | exact fun zz => zz hz8))
    refine r_new (q := 124) C koX6 q289 q290 q17 (1000 + 3 * tk) [.null, .null] (fun j hj => by rcases (show j = 0 ∨ j = 1 by omega) with rfl | rfl <;> rfl) (by decide) (by decide) dX7_ticket_121 rfl (fun at9 => ?_)
    refine r_dup (q := 125) C dX7_ticket_124 rfl rfl ?_
    refine r_aload_n (q := 126) C 1 dX7_ticket_125 rfl rfl ?_
    refine r_get (q := 129) (t := 100) C koX7 ((wd_ne (by omega)).trans t0) 4 (by decide) q129 rfl rfl dX7_ticket_126 rfl ?_
    refine r_iload_n (q := 130) C 2 dX7_ticket_129 rfl rfl ?_
    refine r_iload_n (q := 131) C 3 dX7_ticket_130 rfl rfl ?_
    refine r_lload_n (q := 132) C 4 dX7_ticket_131 rfl rfl ?_
    refine r_lload (q := 134) C 0 dX7_ticket_132 rfl rfl ?_
    refine r_lload (q := 136) C 6 dX7_ticket_134 rfl rfl ?_
    refine r_iload (q := 138) C 7 dX7_ticket_136 rfl rfl ?_
    refine r_callI (q := 141) (As := [.int (nI (tk + gN)), .int (nI vh), .int (nI kd), .long (lN gr), .long (lN ta), .long (lN sc), .int (nI ps)]) (st := [.ref at9]) C (c_TkInit (t := 1000 + 3 * tk) wd_eq) q293 q291 q292 q17 rfl ⟨by decide, by decide⟩ (show (parseMethodDescriptor yX6_init.desc).map (fun d => d.parameters.length) = some 7 by decide +kernel) (by decide) (by decide) (by decide) (by decide) (Nat.le_of_ble_eq_true rfl) rfl dX7_ticket_138 rfl ?_
    rintro v9 w5 ⟨rfl, ⟨naf, naw, nff, n0, n1, n2, f0, f1, f2, f3, f4, f5, f6, f7, f8⟩, ef5⟩
    have k5 : ∀ t, (t < 1000 + 3 * tk ∨ 1003 + 3 * tk ≤ t) → w5 t = w t := fun t ht => (ef5 t (by omega)).trans (wd_ne (by omega))
    have nf := nw_f (fn := fn) (k := tk) (by omega) h1v h2v h7v hg f0 f1 f2 f3 f4 f5 f6 f7 f8
    show V g k 13 w5 3 19 (kQ g k (fun v w' => v = some (.int (nI tk)) ∧ TcAt g w' a0 (tk + 1) gN (rN + 1) tN (stF fn tk (nwL (tk + gN) vh kd gr ta sc ps)) wn gp (apR by9 rN (tkB (tk + gN) vh kd gr ta sc ps)) (upd rD rN (nI (sc / 86400))) tD tV tT ∧ Fl w w') 7 1015) 141 [(10, .long (lN ta)), (0, .ref a0), (1, .int (nI vh)), (2, .int (nI kd)), (3, .long (lN gr)), (5, .long tr), (7, .long (lN sc)), (9, .int (nI ps))] [.ref at9]
    refine r_astore (q := 143) (lv' := [(12, .ref at9), (10, .long (lN ta)), (0, .ref a0), (1, .int (nI vh)), (2, .int (nI kd)), (3, .long (lN gr)), (5, .long tr), (7, .long (lN sc)), (9, .int (nI ps))]) C dX7_ticket_141 (by decide) rfl rfl ?_
    refine r_aload_n (q := 144) C 2 dX7_ticket_143 rfl rfl ?_
    refine r_dup (q := 145) C dX7_ticket_144 rfl rfl ?_
    refine r_get (q := 148) (t := 100) C koX7 ((k5 100 (by omega)).trans t0) 4 (by decide) q129 rfl rfl dX7_ticket_145 rfl ?_
    refine r_iconst (q := 149) C (nI 1) dX7_ticket_148 (by decide) rfl ?_
    refine r_iadd (q := 150) C dX7_ticket_149 rfl ?_
    refine r_ti (show ((nI (tk + gN)) + (nI 1) : Int32) = nI (tk + gN + 1) from nI_add (tk + gN) 1) ?_
    refine r_put (q := 153) (t := 100) (w' := wd_set w5 100 a0 (ob 7 [.ref a1, .ref alk, .ref asp, .int (nI gN), .int (nI (tk + gN + 1)), .ref a3, .ref af])) C koX7 ((k5 100 (by omega)).trans t0) 4 (by decide) q129 rfl rfl rfl rfl (Nat.le_of_ble_eq_true rfl) dX7_ticket_150 rfl rfl ?_
    have k6 : ∀ t, (t ≠ 100 ∧ (t < 1000 + 3 * tk ∨ 1003 + 3 * tk ≤ t)) → (wd_set w5 100 a0 (ob 7 [.ref a1, .ref alk, .ref asp, .int (nI gN), .int (nI (tk + gN + 1)), .ref a3, .ref af])) t = w t := fun t h => (wd_ne h.1).trans (k5 t h.2)
    have l6 : LsAt g (wd_set w5 100 a0 (ob 7 [.ref a1, .ref alk, .ref asp, .int (nI gN), .int (nI (tk + gN + 1)), .ref a3, .ref af])) 123 alk tk elk (fun j => 1000 + 3 * j) := t4.kept (k6 123 (by omega)) (k6 124 (by omega)) (fun j hj q => q.kept (k6 _ (by show 1000 + 3 * j ≠ 100 ∧ (1000 + 3 * j < _ ∨ _); omega)))
    obtain ⟨m9, ae, hls⟩ := t4.get
    refine r_aload_n (q := 154) C 2 dX7_ticket_153 rfl rfl ?_
    refine r_get (q := 157) (t := 100) C koX7 wd_eq 1 (by decide) q126 rfl rfl dX7_ticket_154 rfl ?_
    refine r_aload (q := 159) C 0 dX7_ticket_157 rfl rfl ?_
    refine r_callV (q := 162) (t := 123) (As := [.ref at9]) (st := []) C koJx4a65c ((wd_ne (by decide)).trans ((k5 123 (by omega)).trans hls)) (c_ALadd (tx := 1000 + 3 * tk) l6 (by omega) ⟨6, 2, _, _, _, _, (wd_ne (by omega)).trans n0, koX6, q941⟩ (by omega)) q212 q303 q210 q211 q5 rfl ⟨by decide, by decide⟩ (show (parseMethodDescriptor yJx4a65c_add_9ea2d.desc).map (fun d => d.parameters.length) = some 1 by decide +kernel) (by decide) (by decide) (by decide) (by decide) (Nat.le_of_ble_eq_true rfl) rfl dX7_ticket_159 rfl ?_
    rintro v9 w7 ⟨rfl, l7, ef7⟩
    have e7 : va_up (fun j => 1000 + 3 * j) tk (1000 + 3 * tk) = (fun j => 1000 + 3 * j) := by
      funext j
      unfold va_up
      by_cases z : j = tk
      · rw [if_pos z, z]
      · rw [if_neg z]
    rw [e7] at l7
    have k7 : ∀ t, (t ≠ 100 ∧ (t < 123 ∨ 126 ≤ t) ∧ (t < 1000 + 3 * tk ∨ 1003 + 3 * tk ≤ t)) → w7 t = w t := fun t h => (ef7 t h.2.1).trans (k6 t ⟨h.1, h.2.2⟩)
    have n7 : ∀ t, 1000 ≤ t → w7 t = w5 t := fun t h => (ef7 t (by omega)).trans (wd_ne (by omega))
    show V g k 13 w7 4 479 (kQ g k (fun v w' => v = some (.int (nI tk)) ∧ TcAt g w' a0 (tk + 1) gN (rN + 1) tN (stF fn tk (nwL (tk + gN) vh kd gr ta sc ps)) wn gp (apR by9 rN (tkB (tk + gN) vh kd gr ta sc ps)) (upd rD rN (nI (sc / 86400))) tD tV tT ∧ Fl w w') 7 1015) 162 [(12, .ref at9), (10, .long (lN ta)), (0, .ref a0), (1, .int (nI vh)), (2, .int (nI kd)), (3, .long (lN gr)), (5, .long tr), (7, .long (lN sc)), (9, .int (nI ps))] [.int (nI 1)]
    refine r_pop (q := 163) C dX7_ticket_162 rfl rfl ?_
    refine r_aload_n (q := 164) C 2 dX7_ticket_163 rfl rfl ?_
    refine r_get (q := 167) (t := 100) C koX7 ((ef7 100 (by omega)).trans wd_eq) 5 (by decide) q130 rfl rfl dX7_ticket_164 rfl ?_
    refine r_aload (q := 169) C 0 dX7_ticket_167 rfl rfl ?_
    refine r_callS (q := 172) (As := [.ref at9]) (st := [.ref a3]) C (c_ticketRow (t := 1000 + 3 * tk) (n := rN) (vf := fv9 (stF fn tk (nwL (tk + gN) vh kd gr ta sc ps)) tk) (by omega) (by omega) ((n7 _ (by omega)).trans n0) ((n7 _ (by omega)).trans n1) nf (by rw [nw_6]; exact h6v)) q306 q304 q305 q1 ⟨by decide, by decide⟩ (show (parseMethodDescriptor yX7_ticketRow.desc).map (fun d => d.parameters.length) = some 1 by decide +kernel) (by decide) (by decide) (by decide) (by decide) (Nat.le_of_ble_eq_true rfl) rfl dX7_ticket_169 rfl ?_
    rintro v9 w8 ⟨ar, br, nr, rfl, r0, r1, ef8⟩
    rw [nw_B] at r1
    rw [nw_6] at r0
    have k8 : ∀ t, (t ≠ 100 ∧ (t < 123 ∨ 126 ≤ t) ∧ (t < 1000 + 3 * tk ∨ 1003 + 3 * tk ≤ t) ∧ (t < 2000 + 2 * rN ∨ 2002 + 2 * rN ≤ t)) → w8 t = w t := fun t h => (ef8 t h.2.2.2).trans (k7 t ⟨h.1, h.2.1, h.2.2.1⟩)
    have c8 : ChAt g w8 a3 alr asu alv rN er ab by9 rD := by
      obtain ⟨q1, q2, q3, q4, lev, q5, q6⟩ := t6
      exact ⟨(k8 103 (by omega)).trans q1, q2.keptR (k8 126 (by omega)) (k8 127 (by omega)) (fun j hj => k8 _ (by omega)), q3.kept (fun t a b => k8 t (by omega)), q4.kept (fun t a b => k8 t (by omega)), lev, (k8 114 (by omega)).trans q5, q6⟩
    show V g k 13 w8 6 555 (kQ g k (fun v w' => v = some (.int (nI tk)) ∧ TcAt g w' a0 (tk + 1) gN (rN + 1) tN (stF fn tk (nwL (tk + gN) vh kd gr ta sc ps)) wn gp (apR by9 rN (tkB (tk + gN) vh kd gr ta sc ps)) (upd rD rN (nI (sc / 86400))) tD tV tT ∧ Fl w w') 7 1015) 172 [(12, .ref at9), (10, .long (lN ta)), (0, .ref a0), (1, .int (nI vh)), (2, .int (nI kd)), (3, .long (lN gr)), (5, .long tr), (7, .long (lN sc)), (9, .int (nI ps))] [.ref ar, .ref a3]
    refine r_callV (q := 175) (t := 103) (As := [.ref ar]) (st := []) C koX0 c8.1 (c_append c8 (by omega) r0 r1) q337 q334 q335 q336 q6 rfl ⟨by decide, by decide⟩ (show (parseMethodDescriptor yX0_append.desc).map (fun d => d.parameters.length) = some 1 by decide +kernel) (by decide) (by decide) (by decide) (by decide) (Nat.le_of_ble_eq_true rfl) rfl dX7_ticket_172 rfl ?_
    rintro v9 w9 ⟨rfl, c9, ef9⟩
    have k9 : ∀ t, (t ≠ 100 ∧ (t < 110 ∨ 114 ≤ t) ∧ (t < 123 ∨ 129 ≤ t) ∧ (t < 1000 + 3 * tk ∨ 1003 + 3 * tk ≤ t) ∧ (t < 2000 ∨ 3000 ≤ t)) → w9 t = w t := fun t h => (ef9 t h.2.1 (by omega) (by omega)).trans (k8 t (by omega))
    have m9 : ∀ t, (t = 100 ∨ (114 ≤ t ∧ t < 126) ∨ (1000 ≤ t ∧ t < 2000)) → w9 t = w7 t := fun t h => (ef9 t (by omega) (by omega) (by omega)).trans (ef8 t (by omega))
    have l9 : LsAt g w9 123 alk (tk + 1) (va_up elk tk at9) (fun j => 1000 + 3 * j) := l7.keptT (by omega) (m9 123 (by omega)) (m9 124 (by omega)) (fun t a b => m9 t (by omega))
    obtain ⟨m6, ae6, hls6⟩ := l9.get
    show V g k 13 w9 7 1015 (kQ g k (fun v w' => v = some (.int (nI tk)) ∧ TcAt g w' a0 (tk + 1) gN (rN + 1) tN (stF fn tk (nwL (tk + gN) vh kd gr ta sc ps)) wn gp (apR by9 rN (tkB (tk + gN) vh kd gr ta sc ps)) (upd rD rN (nI (sc / 86400))) tD tV tT ∧ Fl w w') 7 1015) 175 [(12, .ref at9), (10, .long (lN ta)), (0, .ref a0), (1, .int (nI vh)), (2, .int (nI kd)), (3, .long (lN gr)), (5, .long tr), (7, .long (lN sc)), (9, .int (nI ps))] [.int (nI rN)]
    refine r_pop (q := 176) C dX7_ticket_175 rfl rfl ?_
    refine r_aload_n (q := 177) C 2 dX7_ticket_176 rfl rfl ?_
    refine r_get (q := 180) (t := 100) C koX7 ((m9 100 (by omega)).trans ((ef7 100 (by omega)).trans wd_eq)) 1 (by decide) q126 rfl rfl dX7_ticket_177 rfl ?_
    refine r_callV (q := 183) (t := 123) (As := []) (st := []) C koJx4a65c hls6 (c_ALsize l9) q175 q400 q173 q174 q5 rfl ⟨by decide, by decide⟩ (show (parseMethodDescriptor yJx4a65c_size_8abf5.desc).map (fun d => d.parameters.length) = some 0 by decide +kernel) (by decide) (by decide) (by decide) (by decide) (Nat.le_of_ble_eq_true rfl) rfl dX7_ticket_180 rfl ?_
    rintro v9 w13 ⟨rfl, rfl⟩
    show V g k 13 w9 7 1015 (kQ g k (fun v w' => v = some (.int (nI tk)) ∧ TcAt g w' a0 (tk + 1) gN (rN + 1) tN (stF fn tk (nwL (tk + gN) vh kd gr ta sc ps)) wn gp (apR by9 rN (tkB (tk + gN) vh kd gr ta sc ps)) (upd rD rN (nI (sc / 86400))) tD tV tT ∧ Fl w w') 7 1015) 183 [(12, .ref at9), (10, .long (lN ta)), (0, .ref a0), (1, .int (nI vh)), (2, .int (nI kd)), (3, .long (lN gr)), (5, .long tr), (7, .long (lN sc)), (9, .int (nI ps))] [.int (nI (tk + 1))]
    refine r_iconst (q := 184) C (nI 1) dX7_ticket_183 (by decide) rfl ?_
    refine r_isub (q := 185) C dX7_ticket_184 rfl ?_
    refine r_ti (show ((nI (tk + 1)) - (nI 1) : Int32) = nI tk from nI_pred tk) ?_
    refine r_iret C rfl (by decide) (by decide) dX7_ticket_185 ⟨rfl, ⟨a1, alb, alk, asp, a3, alr, asu, alv, af, asg, elb, va_up elk tk at9, va_up er rN ar, va_up ab rN br, gp9, T, ?_, (k9 102 (by omega)).trans t1, t2, t3.kept (by omega) (fun t ht => k9 t (by omega)), l9, ?_, c9, t7.kept (k9 115 (by omega)) (k9 116 (by omega)), t8⟩, fun t ht => k9 t (by omega)⟩
    · rw [show tk + 1 + gN = tk + gN + 1 by omega]
      exact (m9 100 (by omega)).trans ((ef7 100 (by omega)).trans wd_eq)
    · intro k8 hk8
      by_cases z : k8 = tk
      · subst z
        refine ⟨naf, naw, nff, _, ?_, (m9 _ (by omega)).trans ((n7 _ (by omega)).trans n1), (m9 _ (by omega)).trans ((n7 _ (by omega)).trans n2), nf, fun i hi => ?_⟩
        · rw [vup_eq]; exact (m9 _ (by omega)).trans ((n7 _ (by omega)).trans n0)
        · rw [i7 _ (by omega)]; rfl
      · obtain ⟨atf2, atw2, ff2, fw2, p0, p1, p2, p3, p4⟩ := t5 k8 (by omega)
        refine ⟨atf2, atw2, ff2, fw2, ?_, (k9 _ (by omega)).trans p1, (k9 _ (by omega)).trans p2, fun j hj => by rw [stF_o (by omega) hj]; exact p3 j hj, p4⟩
        rw [vup_ne z]; exact (k9 _ (by omega)).trans p0
  rcases htr with rfl | ⟨rfl, k9, hk1, hk2⟩
  · refine r_lcmp_ne (q := 55) (q2 := 58) (tgt := 74) C dX7_ticket_54 rfl dX7_ticket_55 (by decide) rfl (fun _ => ?_) (fun hz14 => absurd (ne_m1 (n := ta) (by omega)) (by first | exact hz14 | exact fun zz => zz hz14))
    refine r_lload (q := 76) C 4 dX7_ticket_74 rfl rfl ?_
    exact fin
  · refine r_lcmp_ne (q := 55) (q2 := 58) (tgt := 74) C dX7_ticket_54 rfl dX7_ticket_55 (by decide) rfl (fun hz15 => absurd (rfl) (by first | exact hz15 | exact fun zz => zz hz15)) (fun _ => ?_)
    refine r_aload_n (q := 59) C 0 dX7_ticket_58 rfl rfl ?_
    refine r_get (q := 62) (t := 100) C koX7 t0 0 (by decide) q125 rfl rfl dX7_ticket_59 rfl ?_
    refine r_lload (q := 64) C 5 dX7_ticket_62 rfl rfl ?_
    refine r_callS (q := 67) (As := [.long (lN sc)]) (st := [.ref a1]) C (c_dayOf h6v) q273 q271 q272 q1 ⟨by decide, by decide⟩ (show (parseMethodDescriptor yX7_dayOf.desc).map (fun d => d.parameters.length) = some 1 by decide +kernel) (by decide) (by decide) (by decide) (by decide) (Nat.le_of_ble_eq_true rfl) rfl dX7_ticket_64 rfl ?_
    rintro v9 w16 ⟨rfl, rfl⟩
    show V g k 13 w 0 0 (kQ g k (fun v w' => v = some (.int (nI tk)) ∧ TcAt g w' a0 (tk + 1) gN (rN + 1) tN (stF fn tk (nwL (tk + gN) vh kd gr ta sc ps)) wn gp (apR by9 rN (tkB (tk + gN) vh kd gr ta sc ps)) (upd rD rN (nI (sc / 86400))) tD tV tT ∧ Fl w w') 7 1015) 67 [(0, .ref a0), (1, .int (nI vh)), (2, .int (nI kd)), (3, .long (lN gr)), (5, .long (-1)), (7, .long (lN sc)), (9, .int (nI ps))] [.int (nI (sc / 86400)), .ref a1]
    refine r_iload_n (q := 68) C 1 dX7_ticket_67 rfl rfl ?_
    refine r_callV (q := 71) (t := 101) (As := [.int (nI (sc / 86400)), .int (nI vh)]) (st := []) C koX5 t3.1 (c_tareOn_y t3 (by omega) hk1) q278 q275 q276 q277 q2 rfl ⟨by decide, by decide⟩ (show (parseMethodDescriptor yX5_tareOn.desc).map (fun d => d.parameters.length) = some 2 by decide +kernel) (by decide) (by decide) (by decide) (by decide) (Nat.le_of_ble_eq_true rfl) rfl dX7_ticket_68 rfl ?_
    rintro v9 w17 ⟨rfl, rfl⟩
    show V g k 13 w 0 0 (kQ g k (fun v w' => v = some (.int (nI tk)) ∧ TcAt g w' a0 (tk + 1) gN (rN + 1) tN (stF fn tk (nwL (tk + gN) vh kd gr ta sc ps)) wn gp (apR by9 rN (tkB (tk + gN) vh kd gr ta sc ps)) (upd rD rN (nI (sc / 86400))) tD tV tT ∧ Fl w w') 7 1015) 71 [(0, .ref a0), (1, .int (nI vh)), (2, .int (nI kd)), (3, .long (lN gr)), (5, .long (-1)), (7, .long (lN sc)), (9, .int (nI ps))] [.long ((tT k9).toInt64)]
    refine r_tl (show ((tT k9).toInt64 : Int64) = lN ta from by rw [hk2]; exact nI_l (by omega)) ?_
    refine r_goto (tgt := 76) C dX7_ticket_71 (by decide) ?_
    exact fin

set_option maxHeartbeats 4000000 in
set_option maxRecDepth 20000 in
theorem x_init {l : Launch} {g : cx_G} {w : wd_T} {a0 : Nat} {fn wn : Nat → Nat} {gp by9 rD tD tV tT : Nat → Int32} (h0 : w 100 = some (a0, ob 7 [.null, .null, .null, .int 0, .int 0, .null, .null])) : Mt l g yX7_init cX7_init 1 none 6 13 7090 w [.ref a0] (fun v w' => v = none ∧ TcAt g w' a0 0 0 0 0 fn wn gp by9 rD tD tV tT ∧ Fl w w') := by
  refine mt_of RX7 "<init>" rfl rfl (by decide) (Nat.le_of_ble_eq_true rfl) [(0, .ref a0)] rfl ?_
  intro k hkl C hin
  subst hkl
  refine r_aload_n (q := 1) C 0 dX7_init_0 rfl rfl ?_
  refine r_objI (q := 4) C q32 q33 q34 (by decide) (Nat.le_of_ble_eq_true rfl) dX7_init_1 rfl ?_
  refine r_aload_n (q := 5) C 0 dX7_init_4 rfl rfl ?_
  refine r_new (q := 8) C koX5 q35 q36 q2 101 [.null] (fun j hj => by rcases (show j = 0 by omega) with rfl <;> rfl) (by decide) (by decide) dX7_init_5 rfl (fun a1 => ?_)
  refine r_dup (q := 9) C dX7_init_8 rfl rfl ?_
  refine r_callIN (q := 12) (As := []) (st := [.ref a1, .ref a0]) C (c_BookInit wd_eq) q39 q37 q38 q2 rfl ⟨by decide, by decide⟩ (show (parseMethodDescriptor yX5_init.desc).map (fun d => d.parameters.length) = some 0 by decide +kernel) (by decide) (by decide) (by decide) (by decide) (Nat.le_of_ble_eq_true rfl) rfl dX7_init_9 rfl ?_
  rintro v9 w5 ⟨rfl, ⟨al, b0, b1⟩, ef5⟩
  show V g k 1 w5 2 4 (kQ g k (fun v w' => v = none ∧ TcAt g w' a0 0 0 0 0 fn wn gp by9 rD tD tV tT ∧ Fl w w') 13 7090) 12 [(0, .ref a0)] [.ref a1, .ref a0]
  refine r_putF (q := 15) (t := 100) (w' := wd_set w5 100 a0 (ob 7 [.ref a1, .null, .null, .int 0, .int 0, .null, .null])) C koX7 ((ef5 100 (by omega)).trans ((wd_ne (by decide)).trans h0)) 0 (by decide) q125 rfl rfl hin rfl rfl rfl (Nat.le_of_ble_eq_true rfl) dX7_init_12 rfl rfl ?_
  refine r_aload_n (q := 16) C 0 dX7_init_15 rfl rfl ?_
  refine r_new (q := 19) C koJx4a65c q71 q42 q5 123 [.int 0, .null, .int 0] (fun j hj => by rcases (show j = 0 ∨ j = 1 ∨ j = 2 by omega) with rfl | rfl | rfl <;> rfl) (by decide) (by decide) dX7_init_16 rfl (fun alk => ?_)
  refine r_dup (q := 20) C dX7_init_19 rfl rfl ?_
  refine r_callI (q := 23) (As := []) (st := [.ref alk, .ref a0]) C (c_ALinit (el := fun _ => 0) (tg := fun j => 1000 + 3 * j) wd_eq) q45 q72 q44 q5 rfl ⟨by decide, by decide⟩ (show (parseMethodDescriptor yJx4a65c_init_da8c8.desc).map (fun d => d.parameters.length) = some 0 by decide +kernel) (by decide) (by decide) (by decide) (by decide) (Nat.le_of_ble_eq_true rfl) rfl dX7_init_20 rfl ?_
  rintro v9 w6 ⟨rfl, l6, ef6⟩
  show V g k 1 w6 3 7 (kQ g k (fun v w' => v = none ∧ TcAt g w' a0 0 0 0 0 fn wn gp by9 rD tD tV tT ∧ Fl w w') 13 7090) 23 [(0, .ref a0)] [.ref alk, .ref a0]
  refine r_putF (q := 26) (t := 100) (w' := wd_set w6 100 a0 (ob 7 [.ref a1, .ref alk, .null, .int 0, .int 0, .null, .null])) C koX7 ((ef6 100 (by omega)).trans ((wd_ne (by decide)).trans wd_eq)) 1 (by decide) q126 rfl rfl hin rfl rfl rfl (Nat.le_of_ble_eq_true rfl) dX7_init_23 rfl rfl ?_
  refine r_aload_n (q := 27) C 0 dX7_init_26 rfl rfl ?_
  refine r_sipush (q := 30) C (nI 400) dX7_init_27 (by decide) rfl ?_
  refine r_newi (q := 32) C 400 rfl (by decide) q100 102 (by decide) (by decide) dX7_init_30 rfl (fun asp => ?_)
  refine r_putF (q := 35) (t := 100) (w' := wd_set (wd_set w6 102 asp (aI g 400 (fun _ => 0))) 100 a0 (ob 7 [.ref a1, .ref alk, .ref asp, .int 0, .int 0, .null, .null])) C koX7 ((wd_ne (by decide)).trans wd_eq) 2 (by decide) q127 rfl rfl hin rfl rfl rfl (Nat.le_of_ble_eq_true rfl) dX7_init_32 rfl (wd_pp wd_ss (by decide)) ?_
  refine r_aload_n (q := 36) C 0 dX7_init_35 rfl rfl ?_
  refine r_iconst (q := 37) C (nI 0) dX7_init_36 (by decide) rfl ?_
  refine r_put (q := 40) (t := 100) (w' := wd_set (wd_set w6 102 asp (aI g 400 (fun _ => 0))) 100 a0 (ob 7 [.ref a1, .ref alk, .ref asp, .int (nI 0), .int 0, .null, .null])) C koX7 wd_eq 3 (by decide) q128 rfl rfl rfl rfl (Nat.le_of_ble_eq_true rfl) dX7_init_37 rfl wd_ss ?_
  refine r_aload_n (q := 41) C 0 dX7_init_40 rfl rfl ?_
  refine r_iconst (q := 42) C (nI 0) dX7_init_41 (by decide) rfl ?_
  refine r_put (q := 45) (t := 100) (w' := wd_set (wd_set w6 102 asp (aI g 400 (fun _ => 0))) 100 a0 (ob 7 [.ref a1, .ref alk, .ref asp, .int (nI 0), .int (nI 0), .null, .null])) C koX7 wd_eq 4 (by decide) q129 rfl rfl rfl rfl (Nat.le_of_ble_eq_true rfl) dX7_init_42 rfl wd_ss ?_
  refine r_aload_n (q := 46) C 0 dX7_init_45 rfl rfl ?_
  refine r_new (q := 49) C koX0 q73 q74 q6 103 [.null, .null, .null] (fun j hj => by rcases (show j = 0 ∨ j = 1 ∨ j = 2 by omega) with rfl | rfl | rfl <;> rfl) (by decide) (by decide) dX7_init_46 rfl (fun a3 => ?_)
  refine r_dup (q := 50) C dX7_init_49 rfl rfl ?_
  refine r_callIN (q := 53) (As := []) (st := [.ref a3, .ref a0]) C (c_ChainInit (er := fun _ => 0) (ab := fun _ => 0) (by9 := by9) (rD := rD) wd_eq) q77 q75 q76 q6 rfl ⟨by decide, by decide⟩ (show (parseMethodDescriptor yX0_init.desc).map (fun d => d.parameters.length) = some 0 by decide +kernel) (by decide) (by decide) (by decide) (by decide) (Nat.le_of_ble_eq_true rfl) rfl dX7_init_50 rfl ?_
  rintro v9 w7 ⟨rfl, ⟨alr, asu, alv, c7⟩, ef7⟩
  show V g k 1 w7 11 7020 (kQ g k (fun v w' => v = none ∧ TcAt g w' a0 0 0 0 0 fn wn gp by9 rD tD tV tT ∧ Fl w w') 13 7090) 53 [(0, .ref a0)] [.ref a3, .ref a0]
  refine r_putF (q := 56) (t := 100) (w' := wd_set w7 100 a0 (ob 7 [.ref a1, .ref alk, .ref asp, .int (nI 0), .int (nI 0), .ref a3, .null])) C koX7 ((ef7 100 (by omega) (by omega) (by omega)).trans ((wd_ne (by decide)).trans wd_eq)) 5 (by decide) q130 rfl rfl hin rfl rfl rfl (Nat.le_of_ble_eq_true rfl) dX7_init_53 rfl rfl ?_
  refine r_aload_n (q := 57) C 0 dX7_init_56 rfl rfl ?_
  refine r_new (q := 60) C koX1 q112 q113 q8 115 [.null, .int 0] (fun j hj => by rcases (show j = 0 ∨ j = 1 by omega) with rfl | rfl <;> rfl) (by decide) (by decide) dX7_init_57 rfl (fun af => ?_)
  refine r_dup (q := 61) C dX7_init_60 rfl rfl ?_
  refine r_callIN (q := 64) (As := []) (st := [.ref af, .ref a0]) C (c_FormInit wd_eq) q116 q114 q115 q8 rfl ⟨by decide, by decide⟩ (show (parseMethodDescriptor yX1_init.desc).map (fun d => d.parameters.length) = some 0 by decide +kernel) (by decide) (by decide) (by decide) (by decide) (Nat.le_of_ble_eq_true rfl) rfl dX7_init_61 rfl ?_
  rintro v9 w8 ⟨rfl, ⟨asg, F8⟩, ef8⟩
  show V g k 1 w8 13 7084 (kQ g k (fun v w' => v = none ∧ TcAt g w' a0 0 0 0 0 fn wn gp by9 rD tD tV tT ∧ Fl w w') 13 7090) 64 [(0, .ref a0)] [.ref af, .ref a0]
  refine r_putF (q := 67) (t := 100) (w' := wd_set w8 100 a0 (ob 7 [.ref a1, .ref alk, .ref asp, .int (nI 0), .int (nI 0), .ref a3, .ref af])) C koX7 ((ef8 100 (by omega)).trans ((wd_ne (by decide)).trans wd_eq)) 6 (by decide) q131 rfl rfl hin rfl rfl rfl (Nat.le_of_ble_eq_true rfl) dX7_init_64 rfl rfl ?_
  have q8 : ∀ t, (t ≠ 100 ∧ t ≠ 115 ∧ t ≠ 116) → w8 t = w7 t := fun t h => (ef8 t (by omega)).trans (by simp only [wd_set, if_neg h.1, if_neg h.2.1])
  have q7 : ∀ t, (t ≠ 100 ∧ t ≠ 102 ∧ t ≠ 103 ∧ (t < 110 ∨ 115 ≤ t) ∧ (t < 126 ∨ 128 ≤ t)) → w7 t = w6 t := fun t h => (ef7 t (by omega) (by omega) (by omega)).trans (by simp only [wd_set, if_neg h.1, if_neg h.2.1, if_neg h.2.2.1])
  have q6 : ∀ t, (t ≠ 100 ∧ t ≠ 123) → w6 t = w5 t := fun t h => (ef6 t (by omega)).trans (by simp only [wd_set, if_neg h.1, if_neg h.2])
  have q5 : ∀ t, (t < 101 ∨ 121 ≤ t) → t ≠ 101 → w5 t = w t := fun t h h2 => (ef5 t h).trans (by simp only [wd_set, if_neg h2])
  refine r_vret C rfl (by decide) (by decide) dX7_init_67 ⟨rfl, ⟨a1, al, alk, asp, a3, alr, asu, alv, af, asg, fun _ => 0, fun _ => 0, fun _ => 0, fun _ => 0, fun _ => 0, [], wd_eq, ?_, fun j hj => absurd hj (Nat.not_lt_zero j), ?_, ?_, fun k hk => absurd hk (Nat.not_lt_zero k), ?_, F8.kept (wd_ne (by decide)) (wd_ne (by decide)), Nat.zero_le _⟩, fun t ht => ?_⟩
  · rw [wd_ne (by decide), q8 102 (by omega), ef7 102 (by omega) (by omega) (by omega)]
    exact ((wd_ne (by decide)).trans ((wd_ne (by decide)).trans wd_eq))
  · refine BkAt.kept (w := w5) ⟨b0, b1, fun j hj => absurd hj (Nat.not_lt_zero j)⟩ (by decide) (fun t ht => ?_)
    rw [wd_ne (by omega), q8 t (by omega), q7 t (by omega), q6 t (by omega)]
  · refine l6.kept ?_ ?_ (fun j hj => absurd hj (Nat.not_lt_zero j))
    · rw [wd_ne (by omega), q8 123 (by omega), q7 123 (by omega)]
    · rw [wd_ne (by omega), q8 _ (by omega), q7 _ (by omega)]
  · refine c7.keptC (by decide) (fun t ht => ?_)
    rw [wd_ne (by omega), q8 t (by omega)]
  · rw [wd_ne (by omega), q8 t (by omega), q7 t (by omega), q6 t (by omega), q5 t (by omega) (by omega)]
