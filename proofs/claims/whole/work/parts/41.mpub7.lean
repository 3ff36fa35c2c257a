/-! the reference: put, putNumber, print -/
def FoAt (g : cx_G) (w : wd_T) (m0 : Nat) (ad : Nat → Nat) (tC tk nu gC rC fl rS : Int32) (T : List Int32) : Prop := ∃ f : Nat → Int32, w 0 = some (m0, mo ad tC tk nu gC rC fl rS (nI T.length)) ∧ w 17 = some (ad 17, aB g 120 f) ∧ tx9 f T
theorem dgs_top {v e : Nat} (h : v < 10 ^ (e + 1)) : ∀ d, dgs (e + 1 + d) v 0 = dgs (e + 1) v 0
  | 0 => rfl
  | d + 1 => by
    rw [← Nat.add_assoc, dgs_0 (Nat.lt_of_lt_of_le h (Nat.pow_le_pow_right (by decide) (by omega))) (by omega)]
    exact dgs_top h d
theorem dgs_first {v e : Nat} (h : v < 10 ^ (e + 1)) (he : e ≤ 9) (hv : e = 0 ∨ 10 ^ e ≤ v) : dgs 10 v 0 = dgs (e + 1) v 1 := by
  have a := dgs_top h (9 - e)
  rw [show e + 1 + (9 - e) = 10 by omega] at a
  rw [a]
  have b : ¬ (0 : Nat) = 0 ∨ 0 < (v / 10 ^ e) % 10 ∨ e = 0 := by
    rcases hv with z | z
    · exact Or.inr (Or.inr z)
    · have p : 0 < 10 ^ e := Nat.pow_pos (by decide)
      have q : 0 < v / 10 ^ e := Nat.div_pos z p
      have r : v / 10 ^ e < 10 := (Nat.div_lt_iff_lt_mul p).mpr (by rw [Nat.pow_succ] at h; omega)
      exact Or.inr (Or.inl (by rw [Nat.mod_eq_of_lt r]; exact q))
  rw [dgs_y b, dgs_y (Or.inl (by decide))]
set_option maxHeartbeats 4000000 in
set_option maxRecDepth 20000 in
theorem m_put {l : Launch} {g : cx_G} {w : wd_T} {m0 : Nat} {ad : Nat → Nat} {tC tk nu gC rC fl rS : Int32} {T : List Int32} (hF : FoAt g w m0 ad tC tk nu gC rC fl rS T) {x : Int32} (hl : T.length < 120) : Mt l g yX8_put cX8_put 2 none 0 0 0 w [.ref m0, .int x] (fun v w' => v = none ∧ FoAt g w' m0 ad tC tk nu gC rC fl rS (T ++ [x.toInt8.toInt32]) ∧ ∀ t, t ≠ 0 → t ≠ 17 → w' t = w t) := by
  refine mt_of RX8 "put" rfl rfl (by decide) (Nat.le_of_ble_eq_true rfl) [(0, .ref m0), (1, .int x)] rfl ?_
  intro k hkl C hin
  subst hkl
  obtain ⟨z1f, z10, z11, z12⟩ := id hF
  refine r_aload_n (q := 1) C 0 dX8_put_0 rfl rfl ?_
  refine r_get (q := 4) (t := 0) C koX8 z10 23 (by decide) q723 rfl rfl dX8_put_1 rfl ?_
  refine r_aload_n (q := 5) C 0 dX8_put_4 rfl rfl ?_
  refine r_get (q := 8) (t := 0) C koX8 z10 24 (by decide) q724 rfl rfl dX8_put_5 rfl ?_
  refine r_iload_n (q := 9) C 1 dX8_put_8 rfl rfl ?_
  refine r_i2b (q := 10) C dX8_put_9 rfl ?_
  refine r_bast8 (q := 11) (t := 17) (w' := wd_set w 17 (ad 17) (aB g 120 (upd z1f T.length x.toInt8.toInt32))) C z11 T.length rfl (by omega) (by decide) dX8_put_10 rfl rfl ?_
  refine r_aload_n (q := 12) C 0 dX8_put_11 rfl rfl ?_
  refine r_dup (q := 13) C dX8_put_12 rfl rfl ?_
  refine r_get (q := 16) (t := 0) C koX8 ((wd_ne (by decide)).trans z10) 24 (by decide) q724 rfl rfl dX8_put_13 rfl ?_
  refine r_iconst (q := 17) C (nI 1) dX8_put_16 (by decide) rfl ?_
  refine r_iadd (q := 18) C dX8_put_17 rfl ?_
  refine r_ti (show ((nI T.length) + (nI 1) : Int32) = nI (T.length + 1) from nI_add T.length 1) ?_
  refine r_put (q := 21) (t := 0) (w' := wd_set (wd_set w 17 (ad 17) (aB g 120 (upd z1f T.length x.toInt8.toInt32))) 0 m0 (mo ad tC tk nu gC rC fl rS (nI (T.length + 1)))) C koX8 ((wd_ne (by decide)).trans z10) 24 (by decide) q724 rfl rfl rfl rfl (Nat.le_of_ble_eq_true rfl) dX8_put_18 rfl rfl ?_
  refine r_vret C rfl (by decide) (by decide) dX8_put_21 ⟨rfl, ⟨_, ?_, ((wd_ne (by decide)).trans wd_eq), tx9_push z12⟩, fun t h1 h2 => by simp only [wd_set, if_neg h1, if_neg h2]⟩
  rw [List.length_append]
  exact wd_eq

set_option maxHeartbeats 4000000 in
set_option maxRecDepth 20000 in
theorem m_pnum {l : Launch} {g : cx_G} {w : wd_T} {m0 : Nat} {ad : Nat → Nat} {tC tk nu gC rC fl rS : Int32} {T : List Int32} (hF : FoAt g w m0 ad tC tk nu gC rC fl rS T) {v : Nat} (hv : v < 10000000000) (hl : T.length + (dgs 10 v 0).length ≤ 64) : Mt l g yX8_putNumber cX8_putNumber 5 none 1 0 0 w [.ref m0, .long (lN v)] (fun v9 w' => v9 = none ∧ FoAt g w' m0 ad tC tk nu gC rC fl rS (T ++ dgs 10 v 0) ∧ ∀ t, t ≠ 0 → t ≠ 17 → w' t = w t) := by
  refine mt_of RX8 "putNumber" rfl rfl (by decide) (Nat.le_of_ble_eq_true rfl) [(0, .ref m0), (1, .long (lN v))] rfl ?_
  intro k hkl C hin
  subst hkl
  refine r_lconst (q := 1) C (lN 1) dX8_putNumber_0 (by decide) rfl ?_
  refine r_lstore_n (q := 2) (lv' := [(3, .long (lN 1)), (0, .ref m0), (1, .long (lN v))]) C dX8_putNumber_1 (by decide) rfl rfl ?_
  refine r_sub (lv' := [(3, .long (lN 1)), (0, .ref m0), (1, .long (lN v))]) [0, 1, 2] rfl ?_
  have loop : ∀ (r e9 : Nat)  , e9 + r = 9 → (e9 = 0 ∨ 10 ^ e9 ≤ v) → V g k 5 w 0 0 (kQ g k (fun v9 w' => v9 = none ∧ FoAt g w' m0 ad tC tk nu gC rC fl rS (T ++ dgs 10 v 0) ∧ ∀ t, t ≠ 0 → t ≠ 17 → w' t = w t) 0 0) 2 [(3, .long (lN (10 ^ e9))), (0, .ref m0), (1, .long (lN v))] [] := by
    intro r
    induction r with
    | zero =>
      intro e9   hi hb9
      obtain ⟨u9, hu⟩ : ∃ u9, u9 = 10 ^ e9 := ⟨_, rfl⟩
      have hu1 : 0 < u9 := by rw [hu]; exact Nat.pow_pos (by decide)
      have hu2 : u9 ≤ 1000000000 := by rw [hu]; exact p10_b (by omega)
      have hd : v / u9 ≤ v := Nat.div_le_self _ _
      rw [← hu]
      refine r_lload_n (q := 3) C 2 dX8_putNumber_2 rfl rfl ?_
      refine r_lload_n (q := 4) C 0 dX8_putNumber_3 rfl rfl ?_
      refine r_ldiv (q := 5) C dX8_putNumber_4 (fun z => absurd ((pk_lEQ (a := u9) (b := 0) (by omega) (by omega)).mp z) (by omega)) rfl ?_
      refine r_tl (show ((lN v) / (lN u9) : Int64) = lN (v / u9) from pk_lDiv (by omega) (by omega) (by omega)) ?_
      refine r_ldc2 (q := 8) (v := lN 9) C dX8_putNumber_5 q797 rfl ?_
      have h99 : v / u9 ≤ 9 := by rw [hu, show e9 = 9 by omega]; have := Nat.div_lt_of_lt_mul (show v < 10 ^ 9 * 10 by omega); omega
      refine r_lcmp_le (q := 9) (q2 := 12) (tgt := 21) C dX8_putNumber_8 rfl dX8_putNumber_9 (by decide) rfl (fun _ => ?_) (fun hz1 => absurd ((pk_lLE (a := (v / u9)) (b := 9) (by omega) (by omega)).mpr (by omega)) (by first | exact hz1 | exact fun zz => zz hz1))
      have hlt : v < 10 ^ (e9 + 1) := by rw [Nat.pow_succ, ← hu]; have z9 := (Nat.div_lt_iff_lt_mul hu1).mp (show v / u9 < 10 by omega); omega
      have hg := dgs_first hlt (by omega) hb9
      have hl2 : T.length + (dgs (e9 + 1) v 1).length ≤ 64 := by rw [← hg]; exact hl
      have hx : u9 = 10 ^ (e9 + 1) / 10 := by rw [p10_d]; exact hu
      rw [hx]
      have loop2 : ∀ (r i : Nat) (T1 : List Int32) (w1 : wd_T), i + r = e9 + 1 → (FoAt g w1 m0 ad tC tk nu gC rC fl rS (T1)) → (T1.length + (dgs r v 1).length ≤ 64) → (T1 ++ dgs r v 1 = T ++ dgs (e9 + 1) v 1) → (∀ t, t ≠ 0 → t ≠ 17 → w1 t = w t) → V g k 5 w1 0 0 (kQ g k (fun v9 w' => v9 = none ∧ FoAt g w' m0 ad tC tk nu gC rC fl rS (T ++ dgs 10 v 0) ∧ ∀ t, t ≠ 0 → t ≠ 17 → w' t = w t) 0 0) 21 [(3, .long (lN (10 ^ r / 10))), (0, .ref m0), (1, .long (lN v))] [] := by
        intro r
        induction r with
        | zero =>
          intro i T1 w1 hi hF1 hl1 hT hf1
          show V g k 5 w1 0 0 (kQ g k (fun v9 w' => v9 = none ∧ FoAt g w' m0 ad tC tk nu gC rC fl rS (T ++ dgs 10 v 0) ∧ ∀ t, t ≠ 0 → t ≠ 17 → w' t = w t) 0 0) 21 [(3, .long (lN 0)), (0, .ref m0), (1, .long (lN v))] []
          refine r_lload_n (q := 22) C 0 dX8_putNumber_21 rfl rfl ?_
          refine r_lconst (q := 23) C (lN 0) dX8_putNumber_22 (by decide) rfl ?_
          refine r_lcmp_le (q := 24) (q2 := 27) (tgt := 52) C dX8_putNumber_23 rfl dX8_putNumber_24 (by decide) rfl (fun _ => ?_) (fun hz2 => absurd ((pk_lLE (a := 0) (b := 0) (by omega) (by omega)).mpr (by omega)) (by first | exact hz2 | exact fun zz => zz hz2))
          exact r_vret C rfl (by decide) (by decide) dX8_putNumber_52 ⟨rfl, by rw [hg, ← hT, dgs, List.append_nil]; exact hF1, hf1⟩
        | succ r ih =>
          intro i T1 w1 hi hF1 hl1 hT hf1
          rw [p10_d]
          obtain ⟨u8, hu8⟩ : ∃ u8, u8 = 10 ^ r := ⟨_, rfl⟩
          have hu81 : 0 < u8 := by rw [hu8]; exact Nat.pow_pos (by decide)
          have hu82 : u8 ≤ 1000000000 := by rw [hu8]; exact p10_b (by omega)
          have hd8 : v / u8 ≤ v := Nat.div_le_self _ _
          rw [← hu8]
          rw [dgs_y (Or.inl (by decide)), ← hu8] at hT hl1
          refine r_lload_n (q := 22) C 0 dX8_putNumber_21 rfl rfl ?_
          refine r_lconst (q := 23) C (lN 0) dX8_putNumber_22 (by decide) rfl ?_
          refine r_lcmp_le (q := 24) (q2 := 27) (tgt := 52) C dX8_putNumber_23 rfl dX8_putNumber_24 (by decide) rfl (fun hz4 => absurd (fun z => absurd ((pk_lLE (a := u8) (b := 0) (by omega) (by omega)).mp z) (by omega)) (by first | exact hz4 | exact fun zz => zz hz4)) (fun _ => ?_)
          refine r_aload_n (q := 28) C 1 dX8_putNumber_27 rfl rfl ?_
          refine r_ldc2 (q := 31) (v := lN 48) C dX8_putNumber_28 q900 rfl ?_
          refine r_lload_n (q := 32) C 2 dX8_putNumber_31 rfl rfl ?_
          refine r_lload_n (q := 33) C 0 dX8_putNumber_32 rfl rfl ?_
          refine r_ldiv (q := 34) C dX8_putNumber_33 (fun z => absurd ((pk_lEQ (a := u8) (b := 0) (by omega) (by omega)).mp z) (by omega)) rfl ?_
          refine r_tl (show ((lN v) / (lN u8) : Int64) = lN (v / u8) from pk_lDiv (by omega) (by omega) (by omega)) ?_
          refine r_ldc2 (q := 37) (v := lN 10) C dX8_putNumber_34 q899 rfl ?_
          refine r_lrem (q := 38) C dX8_putNumber_37 (by decide) rfl ?_
          refine r_tl (show ((lN (v / u8)) - (lN (v / u8)) / (lN 10) * (lN 10) : Int64) = lN ((v / u8) % 10) from pk_lRem (by omega) (by omega) (by omega)) ?_
          refine r_ladd (q := 39) C dX8_putNumber_38 rfl ?_
          refine r_tl (show ((lN 48) + (lN ((v / u8) % 10)) : Int64) = lN (48 + ((v / u8) % 10)) from lN_add 48 ((v / u8) % 10)) ?_
          refine r_l2i (q := 40) C dX8_putNumber_39 rfl ?_
          refine r_ti (show ((lN (48 + ((v / u8) % 10))).toInt32 : Int32) = nI (48 + ((v / u8) % 10)) from lN_i (48 + ((v / u8) % 10))) ?_
          obtain ⟨z5f, z50, z51, z52⟩ := id hF1
          refine r_callV (q := 43) (t := 0) (As := [.int (nI (48 + ((v / u8) % 10)))]) (st := []) C koX8 z50 (m_put hF1 (by rw [List.length_cons] at hl1; omega)) q894 q891 q893 qp27 q9 rfl ⟨by decide, by decide⟩ (show (parseMethodDescriptor yX8_put.desc).map (fun d => d.parameters.length) = some 1 by decide +kernel) (by decide) (by decide) (by decide) (by decide) (Nat.le_of_ble_eq_true rfl) rfl dX8_putNumber_40 rfl ?_
          rintro v9 w2 ⟨rfl, hF2, ef2⟩
          show V g k 5 w2 0 0 (kQ g k (fun v9 w' => v9 = none ∧ FoAt g w' m0 ad tC tk nu gC rC fl rS (T ++ dgs 10 v 0) ∧ ∀ t, t ≠ 0 → t ≠ 17 → w' t = w t) 0 0) 43 [(3, .long (lN u8)), (0, .ref m0), (1, .long (lN v))] []
          refine r_lload_n (q := 44) C 0 dX8_putNumber_43 rfl rfl ?_
          refine r_ldc2 (q := 47) (v := lN 10) C dX8_putNumber_44 q899 rfl ?_
          refine r_ldiv (q := 48) C dX8_putNumber_47 (by decide) rfl ?_
          refine r_tl (show ((lN u8) / (lN 10) : Int64) = lN (u8 / 10) from pk_lDiv (by omega) (by omega) (by omega)) ?_
          refine r_lstore_n (q := 49) (lv' := [(3, .long (lN (u8 / 10))), (0, .ref m0), (1, .long (lN v))]) C dX8_putNumber_48 (by decide) rfl rfl ?_
          refine r_goto (tgt := 21) C dX8_putNumber_49 (by decide) ?_
          refine r_sub (lv' := [(3, .long (lN (u8 / 10))), (0, .ref m0), (1, .long (lN v))]) [0, 1, 2] rfl ?_
          rw [hu8]
          exact ih (i + 1) _ w2 (by omega) hF2 (by rw [ap_l]; exact hl1) (ap_3 hT) (fun t a b => (ef2 t a b).trans (hf1 t a b))
      exact loop2 (e9 + 1) 0 T w (by omega) hF hl2 rfl (fun t _ _ => rfl)
    | succ r ih =>
      intro e9   hi hb9
      obtain ⟨u9, hu⟩ : ∃ u9, u9 = 10 ^ e9 := ⟨_, rfl⟩
      have hu1 : 0 < u9 := by rw [hu]; exact Nat.pow_pos (by decide)
      have hu2 : u9 ≤ 1000000000 := by rw [hu]; exact p10_b (by omega)
      have hd : v / u9 ≤ v := Nat.div_le_self _ _
      rw [← hu]
      refine r_lload_n (q := 3) C 2 dX8_putNumber_2 rfl rfl ?_
      refine r_lload_n (q := 4) C 0 dX8_putNumber_3 rfl rfl ?_
      refine r_ldiv (q := 5) C dX8_putNumber_4 (fun z => absurd ((pk_lEQ (a := u9) (b := 0) (by omega) (by omega)).mp z) (by omega)) rfl ?_
      refine r_tl (show ((lN v) / (lN u9) : Int64) = lN (v / u9) from pk_lDiv (by omega) (by omega) (by omega)) ?_
      refine r_ldc2 (q := 8) (v := lN 9) C dX8_putNumber_5 q797 rfl ?_
      refine r_lcmp_le (q := 9) (q2 := 12) (tgt := 21) C dX8_putNumber_8 rfl dX8_putNumber_9 (by decide) rfl (fun hc8 => ?_) (fun hc8 => ?_)
      · have hc8 : (v / u9) ≤ 9 := (pk_lLE (a := (v / u9)) (b := 9) (by omega) (by omega)).mp hc8
        have hlt : v < 10 ^ (e9 + 1) := by rw [Nat.pow_succ, ← hu]; have z9 := (Nat.div_lt_iff_lt_mul hu1).mp (show v / u9 < 10 by omega); omega
        have hg := dgs_first hlt (by omega) hb9
        have hl2 : T.length + (dgs (e9 + 1) v 1).length ≤ 64 := by rw [← hg]; exact hl
        have hx : u9 = 10 ^ (e9 + 1) / 10 := by rw [p10_d]; exact hu
        rw [hx]
        have loop2 : ∀ (r i : Nat) (T1 : List Int32) (w1 : wd_T), i + r = e9 + 1 → (FoAt g w1 m0 ad tC tk nu gC rC fl rS (T1)) → (T1.length + (dgs r v 1).length ≤ 64) → (T1 ++ dgs r v 1 = T ++ dgs (e9 + 1) v 1) → (∀ t, t ≠ 0 → t ≠ 17 → w1 t = w t) → V g k 5 w1 0 0 (kQ g k (fun v9 w' => v9 = none ∧ FoAt g w' m0 ad tC tk nu gC rC fl rS (T ++ dgs 10 v 0) ∧ ∀ t, t ≠ 0 → t ≠ 17 → w' t = w t) 0 0) 21 [(3, .long (lN (10 ^ r / 10))), (0, .ref m0), (1, .long (lN v))] [] := by
          intro r
          induction r with
          | zero =>
            intro i T1 w1 hi hF1 hl1 hT hf1
            show V g k 5 w1 0 0 (kQ g k (fun v9 w' => v9 = none ∧ FoAt g w' m0 ad tC tk nu gC rC fl rS (T ++ dgs 10 v 0) ∧ ∀ t, t ≠ 0 → t ≠ 17 → w' t = w t) 0 0) 21 [(3, .long (lN 0)), (0, .ref m0), (1, .long (lN v))] []
            refine r_lload_n (q := 22) C 0 dX8_putNumber_21 rfl rfl ?_
            refine r_lconst (q := 23) C (lN 0) dX8_putNumber_22 (by decide) rfl ?_
            refine r_lcmp_le (q := 24) (q2 := 27) (tgt := 52) C dX8_putNumber_23 rfl dX8_putNumber_24 (by decide) rfl (fun _ => ?_) (fun hz10 => absurd ((pk_lLE (a := 0) (b := 0) (by omega) (by omega)).mpr (by omega)) (by first | exact hz10 | exact fun zz => zz hz10))
            exact r_vret C rfl (by decide) (by decide) dX8_putNumber_52 ⟨rfl, by rw [hg, ← hT, dgs, List.append_nil]; exact hF1, hf1⟩
          | succ r ih =>
            intro i T1 w1 hi hF1 hl1 hT hf1
            rw [p10_d]
            obtain ⟨u8, hu8⟩ : ∃ u8, u8 = 10 ^ r := ⟨_, rfl⟩
            have hu81 : 0 < u8 := by rw [hu8]; exact Nat.pow_pos (by decide)
            have hu82 : u8 ≤ 1000000000 := by rw [hu8]; exact p10_b (by omega)
            have hd8 : v / u8 ≤ v := Nat.div_le_self _ _
            rw [← hu8]
            rw [dgs_y (Or.inl (by decide)), ← hu8] at hT hl1
            refine r_lload_n (q := 22) C 0 dX8_putNumber_21 rfl rfl ?_
            refine r_lconst (q := 23) C (lN 0) dX8_putNumber_22 (by decide) rfl ?_
            refine r_lcmp_le (q := 24) (q2 := 27) (tgt := 52) C dX8_putNumber_23 rfl dX8_putNumber_24 (by decide) rfl (fun hz12 => absurd (fun z => absurd ((pk_lLE (a := u8) (b := 0) (by omega) (by omega)).mp z) (by omega)) (by first | exact hz12 | exact fun zz => zz hz12)) (fun _ => ?_)
            refine r_aload_n (q := 28) C 1 dX8_putNumber_27 rfl rfl ?_
            refine r_ldc2 (q := 31) (v := lN 48) C dX8_putNumber_28 q900 rfl ?_
            refine r_lload_n (q := 32) C 2 dX8_putNumber_31 rfl rfl ?_
            refine r_lload_n (q := 33) C 0 dX8_putNumber_32 rfl rfl ?_
            refine r_ldiv (q := 34) C dX8_putNumber_33 (fun z => absurd ((pk_lEQ (a := u8) (b := 0) (by omega) (by omega)).mp z) (by omega)) rfl ?_
            refine r_tl (show ((lN v) / (lN u8) : Int64) = lN (v / u8) from pk_lDiv (by omega) (by omega) (by omega)) ?_
            refine r_ldc2 (q := 37) (v := lN 10) C dX8_putNumber_34 q899 rfl ?_
            refine r_lrem (q := 38) C dX8_putNumber_37 (by decide) rfl ?_
            refine r_tl (show ((lN (v / u8)) - (lN (v / u8)) / (lN 10) * (lN 10) : Int64) = lN ((v / u8) % 10) from pk_lRem (by omega) (by omega) (by omega)) ?_
            refine r_ladd (q := 39) C dX8_putNumber_38 rfl ?_
            refine r_tl (show ((lN 48) + (lN ((v / u8) % 10)) : Int64) = lN (48 + ((v / u8) % 10)) from lN_add 48 ((v / u8) % 10)) ?_
            refine r_l2i (q := 40) C dX8_putNumber_39 rfl ?_
            refine r_ti (show ((lN (48 + ((v / u8) % 10))).toInt32 : Int32) = nI (48 + ((v / u8) % 10)) from lN_i (48 + ((v / u8) % 10))) ?_
            obtain ⟨z13f, z130, z131, z132⟩ := id hF1
            refine r_callV (q := 43) (t := 0) (As := [.int (nI (48 + ((v / u8) % 10)))]) (st := []) C koX8 z130 (m_put hF1 (by rw [List.length_cons] at hl1; omega)) q894 q891 q893 qp27 q9 rfl ⟨by decide, by decide⟩ (show (parseMethodDescriptor yX8_put.desc).map (fun d => d.parameters.length) = some 1 by decide +kernel) (by decide) (by decide) (by decide) (by decide) (Nat.le_of_ble_eq_true rfl) rfl dX8_putNumber_40 rfl ?_
            rintro v9 w2 ⟨rfl, hF2, ef2⟩
            show V g k 5 w2 0 0 (kQ g k (fun v9 w' => v9 = none ∧ FoAt g w' m0 ad tC tk nu gC rC fl rS (T ++ dgs 10 v 0) ∧ ∀ t, t ≠ 0 → t ≠ 17 → w' t = w t) 0 0) 43 [(3, .long (lN u8)), (0, .ref m0), (1, .long (lN v))] []
            refine r_lload_n (q := 44) C 0 dX8_putNumber_43 rfl rfl ?_
            refine r_ldc2 (q := 47) (v := lN 10) C dX8_putNumber_44 q899 rfl ?_
            refine r_ldiv (q := 48) C dX8_putNumber_47 (by decide) rfl ?_
            refine r_tl (show ((lN u8) / (lN 10) : Int64) = lN (u8 / 10) from pk_lDiv (by omega) (by omega) (by omega)) ?_
            refine r_lstore_n (q := 49) (lv' := [(3, .long (lN (u8 / 10))), (0, .ref m0), (1, .long (lN v))]) C dX8_putNumber_48 (by decide) rfl rfl ?_
            refine r_goto (tgt := 21) C dX8_putNumber_49 (by decide) ?_
            refine r_sub (lv' := [(3, .long (lN (u8 / 10))), (0, .ref m0), (1, .long (lN v))]) [0, 1, 2] rfl ?_
            rw [hu8]
            exact ih (i + 1) _ w2 (by omega) hF2 (by rw [ap_l]; exact hl1) (ap_3 hT) (fun t a b => (ef2 t a b).trans (hf1 t a b))
        exact loop2 (e9 + 1) 0 T w (by omega) hF hl2 rfl (fun t _ _ => rfl)
      · have hc8 : ¬ (v / u9) ≤ 9 := fun z => hc8 ((pk_lLE (a := (v / u9)) (b := 9) (by omega) (by omega)).mpr z)
        refine r_lload_n (q := 13) C 0 dX8_putNumber_12 rfl rfl ?_
        refine r_ldc2 (q := 16) (v := lN 10) C dX8_putNumber_13 q899 rfl ?_
        refine r_lmul (q := 17) C dX8_putNumber_16 rfl ?_
        refine r_tl (show ((lN u9) * (lN 10) : Int64) = lN (u9 * 10) from lN_mul u9 10) ?_
        refine r_lstore_n (q := 18) (lv' := [(3, .long (lN (u9 * 10))), (0, .ref m0), (1, .long (lN v))]) C dX8_putNumber_17 (by decide) rfl rfl ?_
        refine r_goto (tgt := 2) C dX8_putNumber_18 (by decide) ?_
        refine r_sub (lv' := [(3, .long (lN (u9 * 10))), (0, .ref m0), (1, .long (lN v))]) [0, 1, 2] rfl ?_
        rw [show u9 * 10 = 10 ^ (e9 + 1) by rw [Nat.pow_succ, hu]]
        exact ih (e9 + 1) (by omega) (Or.inr (by rw [Nat.pow_succ, ← hu]; have z9 := (Nat.le_div_iff_mul_le hu1).mp (show 10 ≤ v / u9 by omega); omega))
  exact loop 9 0 (by omega) (Or.inl rfl)

set_option maxHeartbeats 4000000 in
set_option maxRecDepth 20000 in
theorem y_prt_n {l : Launch} {g : cx_G} {w : wd_T} {c m0 tk gN rN tN : Nat} {fl : Int32} {fn wn : Nat → Nat} {gp by9 rD tD tV tT : Nat → Int32} (hM : MdAt g w m0 fl tk gN rN tN fn wn gp by9 rD tD tV tT) (hI : Iv9 c tk gN rN tN fn wn by9 tD tV tT) {x : Int32} (hx : x < 0 ∨ nI tk ≤ x) {y : Int32} : Mt l g yX8_print cX8_print 4 (some .int) 2 0 0 w [.ref m0, .int x, .int y] (fun v w' => v = some (.int (-1)) ∧ MdAt g w' m0 (nI 0) tk gN rN tN fn wn gp by9 rD tD tV tT ∧ Fm w w') := by
  refine mt_of RX8 "print" rfl rfl (by decide) (Nat.le_of_ble_eq_true rfl) [(0, .ref m0), (1, .int x), (2, .int y)] rfl ?_
  intro k hkl C hin
  subst hkl
  obtain ⟨ad, rS, fS, lv, fo, h0, hks, h3, h4, h5, h6, h7, h8, h9, h10, hsc, h16, h17⟩ := id hM
  obtain ⟨i0, i1, i2, i3, i4, i5, i6, i7, i8, i9, i10⟩ := id hI
  refine r_aload_n (q := 1) C 0 dX8_print_0 rfl rfl ?_
  refine r_iload_n (q := 2) C 1 dX8_print_1 rfl rfl ?_
  refine r_callV (q := 5) (t := 0) (As := [.int x]) (st := []) C koX8 h0 (m_ist_n h0 (by omega) hx) q847 q844 q846 qp25 q9 rfl ⟨by decide, by decide⟩ (show (parseMethodDescriptor yX8_isTicket.desc).map (fun d => d.parameters.length) = some 1 by decide +kernel) (by decide) (by decide) (by decide) (by decide) (Nat.le_of_ble_eq_true rfl) rfl dX8_print_2 rfl ?_
  rintro v9 w2 ⟨rfl, e0, ef1⟩
  show V g k 4 w2 0 0 (kQ g k (fun v w' => v = some (.int (-1)) ∧ MdAt g w' m0 (nI 0) tk gN rN tN fn wn gp by9 rD tD tV tT ∧ Fm w w') 0 0) 5 [(0, .ref m0), (1, .int x), (2, .int y)] [.int (nI 0)]
  refine r_if_ne_f (q := 8) (tgt := 10) C dX8_print_5 (by decide) rfl (by decide) ?_
  refine r_iconst (q := 9) C ((-1)) dX8_print_8 (by decide) rfl ?_
  exact r_iret C rfl (by decide) (by decide) dX8_print_9 ⟨rfl, ⟨ad, _, _, _, _, e0, hks.kept (fun t _ _ => ef1 t (by omega)), ((ef1 3 (by omega)).trans h3), ((ef1 4 (by omega)).trans h4), ((ef1 5 (by omega)).trans h5), ((ef1 6 (by omega)).trans h6), ((ef1 7 (by omega)).trans h7), ((ef1 8 (by omega)).trans h8), ((ef1 9 (by omega)).trans h9), ((ef1 10 (by omega)).trans h10), hsc.kept (fun t _ _ => ef1 t (by omega)), ((ef1 16 (by omega)).trans h16), ((ef1 17 (by omega)).trans h17)⟩, fun t ht => ef1 t (by omega)⟩

set_option maxHeartbeats 4000000 in
set_option maxRecDepth 20000 in
theorem y_prt_y {l : Launch} {g : cx_G} {w : wd_T} {c m0 tk gN rN tN : Nat} {fl : Int32} {fn wn : Nat → Nat} {gp by9 rD tD tV tT : Nat → Int32} (hM : MdAt g w m0 fl tk gN rN tN fn wn gp by9 rD tD tV tT) (hI : Iv9 c tk gN rN tN fn wn by9 tD tV tT) {k9 : Nat} (hk9 : k9 < tk) {i : Nat} (hil : i < (fmT (fv9 fn k9)).length) : Mt l g yX8_print cX8_print 4 (some .int) 2 0 0 w [.ref m0, .int (nI k9), .int (nI i)] (fun v w' => v = some (.int ((fmT (fv9 fn k9))[i]?.getD 0)) ∧ MdAt g w' m0 (nI 0) tk gN rN tN fn wn gp by9 rD tD tV tT ∧ Fm w w') := by
  refine mt_of RX8 "print" rfl rfl (by decide) (Nat.le_of_ble_eq_true rfl) [(0, .ref m0), (1, .int (nI k9)), (2, .int (nI i))] rfl ?_
  intro k hkl C hin
  subst hkl
  obtain ⟨ad, rS, fS, lv, fo, h0, hks, h3, h4, h5, h6, h7, h8, h9, h10, hsc, h16, h17⟩ := id hM
  obtain ⟨i0, i1, i2, i3, i4, i5, i6, i7, i8, i9, i10⟩ := id hI
  have b8 := i4 k9 hk9 8 (by decide)
  have m8 : fmx9 8 = 99 := rfl
  have b3 := i4 k9 hk9 3 (by decide)
  have m3 : fmx9 3 = 1000000000 := rfl
  have n5 := i5 k9 hk9
  have hlt := fv9_lt hI hk9
  have hvb : ∀ i, i < 9 → fv9 fn k9 i < 10000000000 := fun i hi => by have := (hlt i hi).2; omega
  have hb := fv9_fb hI hk9
  have ltx := fmT_len hb
  refine r_aload_n (q := 1) C 0 dX8_print_0 rfl rfl ?_
  refine r_iload_n (q := 2) C 1 dX8_print_1 rfl rfl ?_
  refine r_callV (q := 5) (t := 0) (As := [.int (nI k9)]) (st := []) C koX8 h0 (m_ist_y h0 (by omega) hk9) q847 q844 q846 qp25 q9 rfl ⟨by decide, by decide⟩ (show (parseMethodDescriptor yX8_isTicket.desc).map (fun d => d.parameters.length) = some 1 by decide +kernel) (by decide) (by decide) (by decide) (by decide) (Nat.le_of_ble_eq_true rfl) rfl dX8_print_2 rfl ?_
  rintro v9 w2 ⟨rfl, e0, ef1⟩
  show V g k 4 w2 0 0 (kQ g k (fun v w' => v = some (.int ((fmT (fv9 fn k9))[i]?.getD 0)) ∧ MdAt g w' m0 (nI 0) tk gN rN tN fn wn gp by9 rD tD tV tT ∧ Fm w w') 0 0) 5 [(0, .ref m0), (1, .int (nI k9)), (2, .int (nI i))] [.int (nI 1)]
  refine r_if_ne_t (tgt := 10) C dX8_print_5 (by decide) (by decide) ?_
  refine r_aload_n (q := 11) C 0 dX8_print_10 rfl rfl ?_
  refine r_iconst (q := 12) C (nI 0) dX8_print_11 (by decide) rfl ?_
  refine r_put (q := 15) (t := 0) (w' := wd_set w2 0 m0 (mo ad (nI tN) (nI tk) (nI (tk + gN)) (nI gN) (nI rN) (nI 0) rS (nI 0))) C koX8 e0 24 (by decide) q724 rfl rfl rfl rfl (Nat.le_of_ble_eq_true rfl) dX8_print_12 rfl rfl ?_
  refine r_iconst (q := 16) C (nI 0) dX8_print_15 (by decide) rfl ?_
  refine r_istore_n (q := 17) (lv' := [(3, .int (nI 0)), (0, .ref m0), (1, .int (nI k9)), (2, .int (nI i))]) C dX8_print_16 (by decide) rfl rfl ?_
  refine r_sub (lv' := [(3, .int (nI 0)), (0, .ref m0), (1, .int (nI k9)), (2, .int (nI i))]) [0, 1, 2, 3] rfl ?_
  have hF0 : FoAt g (wd_set w2 0 m0 (mo ad (nI tN) (nI tk) (nI (tk + gN)) (nI gN) (nI rN) (nI 0) rS (nI 0))) m0 ad (nI tN) (nI tk) (nI (tk + gN)) (nI gN) (nI rN) (nI 0) rS ([]) := ⟨fo, wd_eq, ((wd_ne (by decide)).trans ((ef1 17 (by omega)).trans h17)), fun j hj => absurd hj (Nat.not_lt_zero j)⟩
  have hf0 : ∀ t, t ≠ 0 → t ≠ 17 → (wd_set w2 0 m0 (mo ad (nI tN) (nI tk) (nI (tk + gN)) (nI gN) (nI rN) (nI 0) rS (nI 0))) t = w t := fun t a b => (wd_ne a).trans (ef1 t a)
  have loop : ∀ (r i9 : Nat)  (w1 : wd_T), i9 + r = 8 → (FoAt g w1 m0 ad (nI tN) (nI tk) (nI (tk + gN)) (nI gN) (nI rN) (nI 0) rS (fmB (fv9 fn k9) i9)) → (∀ t, t ≠ 0 → t ≠ 17 → w1 t = w t) → V g k 4 w1 0 0 (kQ g k (fun v w' => v = some (.int ((fmT (fv9 fn k9))[i]?.getD 0)) ∧ MdAt g w' m0 (nI 0) tk gN rN tN fn wn gp by9 rD tD tV tT ∧ Fm w w') 0 0) 17 [(3, .int (nI i9)), (0, .ref m0), (1, .int (nI k9)), (2, .int (nI i))] [] := by
    intro r
    induction r with
    | zero =>
      intro i9  w1 hi hF1 hf1
      obtain rfl : 8 = i9 := by omega
      obtain ⟨z4f, z40, z41, z42⟩ := id hF1
      refine r_iload_n (q := 18) C 0 dX8_print_17 rfl rfl ?_
      refine r_bipush (q := 20) C (nI 8) dX8_print_18 (by decide) rfl ?_
      refine r_icmp_ge_t (tgt := 49) C dX8_print_20 (by decide) ((nI_leI (a := 8) (b := 8) (by omega) (by omega)).mpr (by omega)) ?_
      refine r_aload_n (q := 50) C 1 dX8_print_49 rfl rfl ?_
      refine r_iload_n (q := 51) C 2 dX8_print_50 rfl rfl ?_
      by_cases hz : fn (9 * k9 + 8) = 0
      · refine r_callV (q := 54) (t := 0) (As := [.int (nI k9)]) (st := []) C koX8 z40 (m_isv_n z40 ((hf1 6 (by decide) (by decide)).trans h6) (by omega) (by omega) hz) q851 q848 q850 qp26 q9 rfl ⟨by decide, by decide⟩ (show (parseMethodDescriptor yX8_isVoid.desc).map (fun d => d.parameters.length) = some 1 by decide +kernel) (by decide) (by decide) (by decide) (by decide) (Nat.le_of_ble_eq_true rfl) rfl dX8_print_51 rfl ?_
        rintro v9 w5 ⟨rfl, rfl⟩
        show V g k 4 w1 0 0 (kQ g k (fun v w' => v = some (.int ((fmT (fv9 fn k9))[i]?.getD 0)) ∧ MdAt g w' m0 (nI 0) tk gN rN tN fn wn gp by9 rD tD tV tT ∧ Fm w w') 0 0) 54 [(3, .int (nI 8)), (0, .ref m0), (1, .int (nI k9)), (2, .int (nI i))] [.int (nI 0)]
        refine r_if_eq_t (tgt := 104) C dX8_print_54 (by decide) (by decide) ?_
        have hF5 : FoAt g w1 m0 ad (nI tN) (nI tk) (nI (tk + gN)) (nI gN) (nI rN) (nI 0) rS (fmT (fv9 fn k9)) := by unfold fmT; rw [if_pos (show fv9 fn k9 8 = 0 from hz)]; exact hF1
        obtain ⟨z6f, z60, z61, z62⟩ := id hF5
        refine r_iload_n (q := 105) C 3 dX8_print_104 rfl rfl ?_
        refine r_if_lt_f (q := 108) (tgt := 125) C dX8_print_105 (by decide) rfl (nI_pos (by omega)) ?_
        refine r_iload_n (q := 109) C 3 dX8_print_108 rfl rfl ?_
        refine r_aload_n (q := 110) C 1 dX8_print_109 rfl rfl ?_
        refine r_get (q := 113) (t := 0) C koX8 z60 24 (by decide) q724 rfl rfl dX8_print_110 rfl ?_
        refine r_icmp_ge_f (q := 116) (tgt := 125) C dX8_print_113 (by decide) rfl (fun z => absurd ((nI_leI (a := ((fmT (fv9 fn k9)).length)) (b := i) (by omega) (by omega)).mp z) (by omega)) ?_
        refine r_aload_n (q := 117) C 1 dX8_print_116 rfl rfl ?_
        refine r_get (q := 120) (t := 0) C koX8 z60 23 (by decide) q723 rfl rfl dX8_print_117 rfl ?_
        refine r_iload_n (q := 121) C 3 dX8_print_120 rfl rfl ?_
        refine r_bald (q := 122) (t := 17) C z61 i rfl (by omega) (by decide) dX8_print_121 rfl ?_
        refine r_goto (tgt := 126) C dX8_print_122 (by decide) ?_
        exact r_iret C rfl (by decide) (by decide) dX8_print_126 ⟨by rw [z62 i hil]; rfl, ⟨ad, _, _, _, _, z60, hks.kept (fun t _ _ => hf1 t (by omega) (by omega)), ((hf1 3 (by decide) (by decide)).trans h3), ((hf1 4 (by decide) (by decide)).trans h4), ((hf1 5 (by decide) (by decide)).trans h5), ((hf1 6 (by decide) (by decide)).trans h6), ((hf1 7 (by decide) (by decide)).trans h7), ((hf1 8 (by decide) (by decide)).trans h8), ((hf1 9 (by decide) (by decide)).trans h9), ((hf1 10 (by decide) (by decide)).trans h10), hsc.kept (fun t _ _ => hf1 t (by omega) (by omega)), ((hf1 16 (by decide) (by decide)).trans h16), z61⟩, fun t ht => hf1 t (by omega) (by omega)⟩
      · refine r_callV (q := 54) (t := 0) (As := [.int (nI k9)]) (st := []) C koX8 z40 (m_isv_y z40 ((hf1 6 (by decide) (by decide)).trans h6) (by omega) (by omega) hz) q851 q848 q850 qp26 q9 rfl ⟨by decide, by decide⟩ (show (parseMethodDescriptor yX8_isVoid.desc).map (fun d => d.parameters.length) = some 1 by decide +kernel) (by decide) (by decide) (by decide) (by decide) (Nat.le_of_ble_eq_true rfl) rfl dX8_print_51 rfl ?_
        rintro v9 w7 ⟨rfl, rfl⟩
        show V g k 4 w1 0 0 (kQ g k (fun v w' => v = some (.int ((fmT (fv9 fn k9))[i]?.getD 0)) ∧ MdAt g w' m0 (nI 0) tk gN rN tN fn wn gp by9 rD tD tV tT ∧ Fm w w') 0 0) 54 [(3, .int (nI 8)), (0, .ref m0), (1, .int (nI k9)), (2, .int (nI i))] [.int (nI 1)]
        refine r_if_eq_f (q := 57) (tgt := 104) C dX8_print_54 (by decide) rfl (by decide) ?_
        have l8 := fmB_len hb 8 (by decide)
        have l9 := ln9_le 8 (by decide)
        have d8 := dgs_len (wd9_1 8 (by decide)) (hb.1 8 (by decide)) 10
        have l7 : wd9 8 = 2 := rfl
        have hG0 : FoAt g w1 m0 ad (nI tN) (nI tk) (nI (tk + gN)) (nI gN) (nI rN) (nI 0) rS (fmB (fv9 fn k9) 8 ++ vdB 0) := by rw [vdB, List.append_nil]; exact hF1
        refine r_aload_n (q := 58) C 1 dX8_print_57 rfl rfl ?_
        refine r_bipush (q := 60) C (nI 32) dX8_print_58 (by decide) rfl ?_
        obtain ⟨z8f, z80, z81, z82⟩ := id hG0
        refine r_callV (q := 63) (t := 0) (As := [.int (nI 32)]) (st := []) C koX8 z80 (m_put hG0 (by rw [List.length_append, vdB_len]; omega)) q894 q891 q893 qp27 q9 rfl ⟨by decide, by decide⟩ (show (parseMethodDescriptor yX8_put.desc).map (fun d => d.parameters.length) = some 1 by decide +kernel) (by decide) (by decide) (by decide) (by decide) (Nat.le_of_ble_eq_true rfl) rfl dX8_print_60 rfl ?_
        rintro v9 u10w ⟨rfl, u10F, u10e⟩
        have u10h : ∀ t, t ≠ 0 → t ≠ 17 → u10w t = w t := fun t a b => (u10e t a b).trans (hf1 t a b)
        show V g k 4 u10w 0 0 (kQ g k (fun v w' => v = some (.int ((fmT (fv9 fn k9))[i]?.getD 0)) ∧ MdAt g w' m0 (nI 0) tk gN rN tN fn wn gp by9 rD tD tV tT ∧ Fm w w') 0 0) 63 [(3, .int (nI 8)), (0, .ref m0), (1, .int (nI k9)), (2, .int (nI i))] []
        have hG1 : FoAt g u10w m0 ad (nI tN) (nI tk) (nI (tk + gN)) (nI gN) (nI rN) (nI 0) rS (fmB (fv9 fn k9) 8 ++ vdB 1) := by rw [vdB, ← List.append_assoc]; exact u10F
        refine r_aload_n (q := 64) C 1 dX8_print_63 rfl rfl ?_
        refine r_bipush (q := 66) C (nI 86) dX8_print_64 (by decide) rfl ?_
        obtain ⟨z11f, z110, z111, z112⟩ := id hG1
        refine r_callV (q := 69) (t := 0) (As := [.int (nI 86)]) (st := []) C koX8 z110 (m_put hG1 (by rw [List.length_append, vdB_len]; omega)) q894 q891 q893 qp27 q9 rfl ⟨by decide, by decide⟩ (show (parseMethodDescriptor yX8_put.desc).map (fun d => d.parameters.length) = some 1 by decide +kernel) (by decide) (by decide) (by decide) (by decide) (Nat.le_of_ble_eq_true rfl) rfl dX8_print_66 rfl ?_
        rintro v9 u13w ⟨rfl, u13F, u13e⟩
        have u13h : ∀ t, t ≠ 0 → t ≠ 17 → u13w t = w t := fun t a b => (u13e t a b).trans (u10h t a b)
        show V g k 4 u13w 0 0 (kQ g k (fun v w' => v = some (.int ((fmT (fv9 fn k9))[i]?.getD 0)) ∧ MdAt g w' m0 (nI 0) tk gN rN tN fn wn gp by9 rD tD tV tT ∧ Fm w w') 0 0) 69 [(3, .int (nI 8)), (0, .ref m0), (1, .int (nI k9)), (2, .int (nI i))] []
        have hG2 : FoAt g u13w m0 ad (nI tN) (nI tk) (nI (tk + gN)) (nI gN) (nI rN) (nI 0) rS (fmB (fv9 fn k9) 8 ++ vdB 2) := by rw [vdB, ← List.append_assoc]; exact u13F
        refine r_aload_n (q := 70) C 1 dX8_print_69 rfl rfl ?_
        refine r_bipush (q := 72) C (nI 79) dX8_print_70 (by decide) rfl ?_
        obtain ⟨z14f, z140, z141, z142⟩ := id hG2
        refine r_callV (q := 75) (t := 0) (As := [.int (nI 79)]) (st := []) C koX8 z140 (m_put hG2 (by rw [List.length_append, vdB_len]; omega)) q894 q891 q893 qp27 q9 rfl ⟨by decide, by decide⟩ (show (parseMethodDescriptor yX8_put.desc).map (fun d => d.parameters.length) = some 1 by decide +kernel) (by decide) (by decide) (by decide) (by decide) (Nat.le_of_ble_eq_true rfl) rfl dX8_print_72 rfl ?_
        rintro v9 u16w ⟨rfl, u16F, u16e⟩
        have u16h : ∀ t, t ≠ 0 → t ≠ 17 → u16w t = w t := fun t a b => (u16e t a b).trans (u13h t a b)
        show V g k 4 u16w 0 0 (kQ g k (fun v w' => v = some (.int ((fmT (fv9 fn k9))[i]?.getD 0)) ∧ MdAt g w' m0 (nI 0) tk gN rN tN fn wn gp by9 rD tD tV tT ∧ Fm w w') 0 0) 75 [(3, .int (nI 8)), (0, .ref m0), (1, .int (nI k9)), (2, .int (nI i))] []
        have hG3 : FoAt g u16w m0 ad (nI tN) (nI tk) (nI (tk + gN)) (nI gN) (nI rN) (nI 0) rS (fmB (fv9 fn k9) 8 ++ vdB 3) := by rw [vdB, ← List.append_assoc]; exact u16F
        refine r_aload_n (q := 76) C 1 dX8_print_75 rfl rfl ?_
        refine r_bipush (q := 78) C (nI 73) dX8_print_76 (by decide) rfl ?_
        obtain ⟨z17f, z170, z171, z172⟩ := id hG3
        refine r_callV (q := 81) (t := 0) (As := [.int (nI 73)]) (st := []) C koX8 z170 (m_put hG3 (by rw [List.length_append, vdB_len]; omega)) q894 q891 q893 qp27 q9 rfl ⟨by decide, by decide⟩ (show (parseMethodDescriptor yX8_put.desc).map (fun d => d.parameters.length) = some 1 by decide +kernel) (by decide) (by decide) (by decide) (by decide) (Nat.le_of_ble_eq_true rfl) rfl dX8_print_78 rfl ?_
        rintro v9 u19w ⟨rfl, u19F, u19e⟩
        have u19h : ∀ t, t ≠ 0 → t ≠ 17 → u19w t = w t := fun t a b => (u19e t a b).trans (u16h t a b)
        show V g k 4 u19w 0 0 (kQ g k (fun v w' => v = some (.int ((fmT (fv9 fn k9))[i]?.getD 0)) ∧ MdAt g w' m0 (nI 0) tk gN rN tN fn wn gp by9 rD tD tV tT ∧ Fm w w') 0 0) 81 [(3, .int (nI 8)), (0, .ref m0), (1, .int (nI k9)), (2, .int (nI i))] []
        have hG4 : FoAt g u19w m0 ad (nI tN) (nI tk) (nI (tk + gN)) (nI gN) (nI rN) (nI 0) rS (fmB (fv9 fn k9) 8 ++ vdB 4) := by rw [vdB, ← List.append_assoc]; exact u19F
        refine r_aload_n (q := 82) C 1 dX8_print_81 rfl rfl ?_
        refine r_bipush (q := 84) C (nI 68) dX8_print_82 (by decide) rfl ?_
        obtain ⟨z20f, z200, z201, z202⟩ := id hG4
        refine r_callV (q := 87) (t := 0) (As := [.int (nI 68)]) (st := []) C koX8 z200 (m_put hG4 (by rw [List.length_append, vdB_len]; omega)) q894 q891 q893 qp27 q9 rfl ⟨by decide, by decide⟩ (show (parseMethodDescriptor yX8_put.desc).map (fun d => d.parameters.length) = some 1 by decide +kernel) (by decide) (by decide) (by decide) (by decide) (Nat.le_of_ble_eq_true rfl) rfl dX8_print_84 rfl ?_
        rintro v9 u22w ⟨rfl, u22F, u22e⟩
        have u22h : ∀ t, t ≠ 0 → t ≠ 17 → u22w t = w t := fun t a b => (u22e t a b).trans (u19h t a b)
        show V g k 4 u22w 0 0 (kQ g k (fun v w' => v = some (.int ((fmT (fv9 fn k9))[i]?.getD 0)) ∧ MdAt g w' m0 (nI 0) tk gN rN tN fn wn gp by9 rD tD tV tT ∧ Fm w w') 0 0) 87 [(3, .int (nI 8)), (0, .ref m0), (1, .int (nI k9)), (2, .int (nI i))] []
        have hG5 : FoAt g u22w m0 ad (nI tN) (nI tk) (nI (tk + gN)) (nI gN) (nI rN) (nI 0) rS (fmB (fv9 fn k9) 8 ++ vdB 5) := by rw [vdB, ← List.append_assoc]; exact u22F
        refine r_aload_n (q := 88) C 1 dX8_print_87 rfl rfl ?_
        refine r_bipush (q := 90) C (nI 32) dX8_print_88 (by decide) rfl ?_
        obtain ⟨z23f, z230, z231, z232⟩ := id hG5
        refine r_callV (q := 93) (t := 0) (As := [.int (nI 32)]) (st := []) C koX8 z230 (m_put hG5 (by rw [List.length_append, vdB_len]; omega)) q894 q891 q893 qp27 q9 rfl ⟨by decide, by decide⟩ (show (parseMethodDescriptor yX8_put.desc).map (fun d => d.parameters.length) = some 1 by decide +kernel) (by decide) (by decide) (by decide) (by decide) (Nat.le_of_ble_eq_true rfl) rfl dX8_print_90 rfl ?_
        rintro v9 u25w ⟨rfl, u25F, u25e⟩
        have u25h : ∀ t, t ≠ 0 → t ≠ 17 → u25w t = w t := fun t a b => (u25e t a b).trans (u22h t a b)
        show V g k 4 u25w 0 0 (kQ g k (fun v w' => v = some (.int ((fmT (fv9 fn k9))[i]?.getD 0)) ∧ MdAt g w' m0 (nI 0) tk gN rN tN fn wn gp by9 rD tD tV tT ∧ Fm w w') 0 0) 93 [(3, .int (nI 8)), (0, .ref m0), (1, .int (nI k9)), (2, .int (nI i))] []
        have hG6 : FoAt g u25w m0 ad (nI tN) (nI tk) (nI (tk + gN)) (nI gN) (nI rN) (nI 0) rS (fmB (fv9 fn k9) 8 ++ vdB 6) := by rw [vdB, ← List.append_assoc]; exact u25F
        refine r_aload_n (q := 94) C 1 dX8_print_93 rfl rfl ?_
        refine r_aload_n (q := 95) C 1 dX8_print_94 rfl rfl ?_
        refine r_iload_n (q := 96) C 2 dX8_print_95 rfl rfl ?_
        refine r_bipush (q := 98) C (nI 8) dX8_print_96 (by decide) rfl ?_
        obtain ⟨z26f, z260, z261, z262⟩ := id hG6
        refine r_callV (q := 101) (t := 0) (As := [.int (nI k9), .int (nI 8)]) (st := [.ref m0]) C koX8 z260 (m_at_y z260 ((u25h 6 (by decide) (by decide)).trans h6) (by omega) hk9 n5 (i := 8) (by omega)) q859 q886 q857 q858 q9 rfl ⟨by decide, by decide⟩ (show (parseMethodDescriptor yX8_at.desc).map (fun d => d.parameters.length) = some 2 by decide +kernel) (by decide) (by decide) (by decide) (by decide) (Nat.le_of_ble_eq_true rfl) rfl dX8_print_98 rfl ?_
        rintro v9 u27w ⟨rfl, u270, u27e⟩
        have u27F : FoAt g u27w m0 ad (nI tN) (nI tk) (nI (tk + gN)) (nI gN) (nI rN) (nI 0) rS (fmB (fv9 fn k9) 8 ++ vdB 6) := ⟨_, u270, (u27e 17 (by decide)).trans z261, z262⟩
        show V g k 4 u27w 0 0 (kQ g k (fun v w' => v = some (.int ((fmT (fv9 fn k9))[i]?.getD 0)) ∧ MdAt g w' m0 (nI 0) tk gN rN tN fn wn gp by9 rD tD tV tT ∧ Fm w w') 0 0) 101 [(3, .int (nI 8)), (0, .ref m0), (1, .int (nI k9)), (2, .int (nI i))] [.long (lN (fv9 fn k9 8)), .ref m0]
        obtain ⟨z29f, z290, z291, z292⟩ := id u27F
        refine r_callV (q := 104) (t := 0) (As := [.long (lN (fv9 fn k9 8))]) (st := []) C koX8 z290 (m_pnum u27F (hvb 8 (by omega)) (by rw [List.length_append, vdB_len]; omega)) q898 q895 q897 qp28 q9 rfl ⟨by decide, by decide⟩ (show (parseMethodDescriptor yX8_putNumber.desc).map (fun d => d.parameters.length) = some 1 by decide +kernel) (by decide) (by decide) (by decide) (by decide) (Nat.le_of_ble_eq_true rfl) rfl dX8_print_101 rfl ?_
        rintro v9 u31w ⟨rfl, u31F, u31e⟩
        have u31h : ∀ t, t ≠ 0 → t ≠ 17 → u31w t = w t := fun t a b => (u31e t a b).trans ((u27e t a).trans (u25h t a b))
        show V g k 4 u31w 0 0 (kQ g k (fun v w' => v = some (.int ((fmT (fv9 fn k9))[i]?.getD 0)) ∧ MdAt g w' m0 (nI 0) tk gN rN tN fn wn gp by9 rD tD tV tT ∧ Fm w w') 0 0) 104 [(3, .int (nI 8)), (0, .ref m0), (1, .int (nI k9)), (2, .int (nI i))] []
        have hF5 : FoAt g u31w m0 ad (nI tN) (nI tk) (nI (tk + gN)) (nI gN) (nI rN) (nI 0) rS (fmT (fv9 fn k9)) := by unfold fmT; rw [if_neg (show ¬ fv9 fn k9 8 = 0 from hz)]; exact u31F
        obtain ⟨z32f, z320, z321, z322⟩ := id hF5
        refine r_iload_n (q := 105) C 3 dX8_print_104 rfl rfl ?_
        refine r_if_lt_f (q := 108) (tgt := 125) C dX8_print_105 (by decide) rfl (nI_pos (by omega)) ?_
        refine r_iload_n (q := 109) C 3 dX8_print_108 rfl rfl ?_
        refine r_aload_n (q := 110) C 1 dX8_print_109 rfl rfl ?_
        refine r_get (q := 113) (t := 0) C koX8 z320 24 (by decide) q724 rfl rfl dX8_print_110 rfl ?_
        refine r_icmp_ge_f (q := 116) (tgt := 125) C dX8_print_113 (by decide) rfl (fun z => absurd ((nI_leI (a := ((fmT (fv9 fn k9)).length)) (b := i) (by omega) (by omega)).mp z) (by omega)) ?_
        refine r_aload_n (q := 117) C 1 dX8_print_116 rfl rfl ?_
        refine r_get (q := 120) (t := 0) C koX8 z320 23 (by decide) q723 rfl rfl dX8_print_117 rfl ?_
        refine r_iload_n (q := 121) C 3 dX8_print_120 rfl rfl ?_
        refine r_bald (q := 122) (t := 17) C z321 i rfl (by omega) (by decide) dX8_print_121 rfl ?_
        refine r_goto (tgt := 126) C dX8_print_122 (by decide) ?_
        exact r_iret C rfl (by decide) (by decide) dX8_print_126 ⟨by rw [z322 i hil]; rfl, ⟨ad, _, _, _, _, z320, hks.kept (fun t _ _ => u31h t (by omega) (by omega)), ((u31h 3 (by decide) (by decide)).trans h3), ((u31h 4 (by decide) (by decide)).trans h4), ((u31h 5 (by decide) (by decide)).trans h5), ((u31h 6 (by decide) (by decide)).trans h6), ((u31h 7 (by decide) (by decide)).trans h7), ((u31h 8 (by decide) (by decide)).trans h8), ((u31h 9 (by decide) (by decide)).trans h9), ((u31h 10 (by decide) (by decide)).trans h10), hsc.kept (fun t _ _ => u31h t (by omega) (by omega)), ((u31h 16 (by decide) (by decide)).trans h16), z321⟩, fun t ht => u31h t (by omega) (by omega)⟩
    | succ r ih =>
      intro i9  w1 hi hF1 hf1
      obtain ⟨z34f, z340, z341, z342⟩ := id hF1
      refine r_iload_n (q := 18) C 0 dX8_print_17 rfl rfl ?_
      refine r_bipush (q := 20) C (nI 8) dX8_print_18 (by decide) rfl ?_
      refine r_icmp_ge_f (q := 23) (tgt := 49) C dX8_print_20 (by decide) rfl (fun z => absurd ((nI_leI (a := 8) (b := i9) (by omega) (by omega)).mp z) (by omega)) ?_
      refine r_iload_n (q := 24) C 0 dX8_print_23 rfl rfl ?_
      have hm := fmB_len hb (i9 + 1) (by omega)
      have hm2 := ln9_le (i9 + 1) (by omega)
      rw [fmB, List.length_append] at hm
      refine r_if_le (q := 27) (tgt := 33) C dX8_print_24 (by decide) rfl (fun hc35 => ?_) (fun hc35 => ?_)
      · have hc35 : i9 ≤ 0 := (nI_leI (a := i9) (b := 0) (by omega) (by omega)).mp hc35
        rw [if_neg (by omega)] at hm
        refine r_aload_n (q := 34) C 1 dX8_print_33 rfl rfl ?_
        refine r_aload_n (q := 35) C 1 dX8_print_34 rfl rfl ?_
        refine r_iload_n (q := 36) C 2 dX8_print_35 rfl rfl ?_
        refine r_iload_n (q := 37) C 0 dX8_print_36 rfl rfl ?_
        obtain ⟨z37f, z370, z371, z372⟩ := id hF1
        refine r_callV (q := 40) (t := 0) (As := [.int (nI k9), .int (nI i9)]) (st := [.ref m0]) C koX8 z370 (m_at_y z370 ((hf1 6 (by decide) (by decide)).trans h6) (by omega) hk9 n5 (i := i9) (by omega)) q859 q886 q857 q858 q9 rfl ⟨by decide, by decide⟩ (show (parseMethodDescriptor yX8_at.desc).map (fun d => d.parameters.length) = some 2 by decide +kernel) (by decide) (by decide) (by decide) (by decide) (Nat.le_of_ble_eq_true rfl) rfl dX8_print_37 rfl ?_
        rintro v9 u38w ⟨rfl, u380, u38e⟩
        have u38F : FoAt g u38w m0 ad (nI tN) (nI tk) (nI (tk + gN)) (nI gN) (nI rN) (nI 0) rS (fmB (fv9 fn k9) i9) := ⟨_, u380, (u38e 17 (by decide)).trans z371, z372⟩
        show V g k 4 u38w 0 0 (kQ g k (fun v w' => v = some (.int ((fmT (fv9 fn k9))[i]?.getD 0)) ∧ MdAt g w' m0 (nI 0) tk gN rN tN fn wn gp by9 rD tD tV tT ∧ Fm w w') 0 0) 40 [(3, .int (nI i9)), (0, .ref m0), (1, .int (nI k9)), (2, .int (nI i))] [.long (lN (fv9 fn k9 i9)), .ref m0]
        obtain ⟨z40f, z400, z401, z402⟩ := id u38F
        refine r_callV (q := 43) (t := 0) (As := [.long (lN (fv9 fn k9 i9))]) (st := []) C koX8 z400 (m_pnum u38F (hvb i9 (by omega)) (by omega)) q898 q895 q897 qp28 q9 rfl ⟨by decide, by decide⟩ (show (parseMethodDescriptor yX8_putNumber.desc).map (fun d => d.parameters.length) = some 1 by decide +kernel) (by decide) (by decide) (by decide) (by decide) (Nat.le_of_ble_eq_true rfl) rfl dX8_print_40 rfl ?_
        rintro v9 u42w ⟨rfl, u42F, u42e⟩
        have u42h : ∀ t, t ≠ 0 → t ≠ 17 → u42w t = w t := fun t a b => (u42e t a b).trans ((u38e t a).trans (hf1 t a b))
        show V g k 4 u42w 0 0 (kQ g k (fun v w' => v = some (.int ((fmT (fv9 fn k9))[i]?.getD 0)) ∧ MdAt g w' m0 (nI 0) tk gN rN tN fn wn gp by9 rD tD tV tT ∧ Fm w w') 0 0) 43 [(3, .int (nI i9)), (0, .ref m0), (1, .int (nI k9)), (2, .int (nI i))] []
        refine r_iinc (q := 46) (v := nI (i9 + 1)) (lv' := [(3, .int (nI (i9 + 1))), (0, .ref m0), (1, .int (nI k9)), (2, .int (nI i))]) C 0 dX8_print_43 rfl (nI_1 i9) (by decide) rfl rfl ?_
        refine r_goto (tgt := 17) C dX8_print_46 (by decide) ?_
        refine r_sub (lv' := [(3, .int (nI (i9 + 1))), (0, .ref m0), (1, .int (nI k9)), (2, .int (nI i))]) [0, 1, 2, 3] rfl ?_
        exact ih (i9 + 1) u42w (by omega) (by rw [fmB, if_neg (by omega)]; exact u42F) u42h
      · have hc35 : ¬ i9 ≤ 0 := fun z => hc35 ((nI_leI (a := i9) (b := 0) (by omega) (by omega)).mpr z)
        rw [if_pos (by omega), List.length_append, List.length_singleton] at hm
        refine r_aload_n (q := 28) C 1 dX8_print_27 rfl rfl ?_
        refine r_bipush (q := 30) C (nI 32) dX8_print_28 (by decide) rfl ?_
        obtain ⟨z44f, z440, z441, z442⟩ := id hF1
        refine r_callV (q := 33) (t := 0) (As := [.int (nI 32)]) (st := []) C koX8 z440 (m_put hF1 (by omega)) q894 q891 q893 qp27 q9 rfl ⟨by decide, by decide⟩ (show (parseMethodDescriptor yX8_put.desc).map (fun d => d.parameters.length) = some 1 by decide +kernel) (by decide) (by decide) (by decide) (by decide) (Nat.le_of_ble_eq_true rfl) rfl dX8_print_30 rfl ?_
        rintro v9 u46w ⟨rfl, u46F, u46e⟩
        have u46h : ∀ t, t ≠ 0 → t ≠ 17 → u46w t = w t := fun t a b => (u46e t a b).trans (hf1 t a b)
        show V g k 4 u46w 0 0 (kQ g k (fun v w' => v = some (.int ((fmT (fv9 fn k9))[i]?.getD 0)) ∧ MdAt g w' m0 (nI 0) tk gN rN tN fn wn gp by9 rD tD tV tT ∧ Fm w w') 0 0) 33 [(3, .int (nI i9)), (0, .ref m0), (1, .int (nI k9)), (2, .int (nI i))] []
        refine r_aload_n (q := 34) C 1 dX8_print_33 rfl rfl ?_
        refine r_aload_n (q := 35) C 1 dX8_print_34 rfl rfl ?_
        refine r_iload_n (q := 36) C 2 dX8_print_35 rfl rfl ?_
        refine r_iload_n (q := 37) C 0 dX8_print_36 rfl rfl ?_
        obtain ⟨z47f, z470, z471, z472⟩ := id u46F
        refine r_callV (q := 40) (t := 0) (As := [.int (nI k9), .int (nI i9)]) (st := [.ref m0]) C koX8 z470 (m_at_y z470 ((u46h 6 (by decide) (by decide)).trans h6) (by omega) hk9 n5 (i := i9) (by omega)) q859 q886 q857 q858 q9 rfl ⟨by decide, by decide⟩ (show (parseMethodDescriptor yX8_at.desc).map (fun d => d.parameters.length) = some 2 by decide +kernel) (by decide) (by decide) (by decide) (by decide) (Nat.le_of_ble_eq_true rfl) rfl dX8_print_37 rfl ?_
        rintro v9 u48w ⟨rfl, u480, u48e⟩
        have u48F : FoAt g u48w m0 ad (nI tN) (nI tk) (nI (tk + gN)) (nI gN) (nI rN) (nI 0) rS (fmB (fv9 fn k9) i9 ++ [chB 32]) := ⟨_, u480, (u48e 17 (by decide)).trans z471, z472⟩
        show V g k 4 u48w 0 0 (kQ g k (fun v w' => v = some (.int ((fmT (fv9 fn k9))[i]?.getD 0)) ∧ MdAt g w' m0 (nI 0) tk gN rN tN fn wn gp by9 rD tD tV tT ∧ Fm w w') 0 0) 40 [(3, .int (nI i9)), (0, .ref m0), (1, .int (nI k9)), (2, .int (nI i))] [.long (lN (fv9 fn k9 i9)), .ref m0]
        obtain ⟨z50f, z500, z501, z502⟩ := id u48F
        refine r_callV (q := 43) (t := 0) (As := [.long (lN (fv9 fn k9 i9))]) (st := []) C koX8 z500 (m_pnum u48F (hvb i9 (by omega)) (by rw [List.length_append, List.length_singleton]; omega)) q898 q895 q897 qp28 q9 rfl ⟨by decide, by decide⟩ (show (parseMethodDescriptor yX8_putNumber.desc).map (fun d => d.parameters.length) = some 1 by decide +kernel) (by decide) (by decide) (by decide) (by decide) (Nat.le_of_ble_eq_true rfl) rfl dX8_print_40 rfl ?_
        rintro v9 u52w ⟨rfl, u52F, u52e⟩
        have u52h : ∀ t, t ≠ 0 → t ≠ 17 → u52w t = w t := fun t a b => (u52e t a b).trans ((u48e t a).trans (u46h t a b))
        show V g k 4 u52w 0 0 (kQ g k (fun v w' => v = some (.int ((fmT (fv9 fn k9))[i]?.getD 0)) ∧ MdAt g w' m0 (nI 0) tk gN rN tN fn wn gp by9 rD tD tV tT ∧ Fm w w') 0 0) 43 [(3, .int (nI i9)), (0, .ref m0), (1, .int (nI k9)), (2, .int (nI i))] []
        refine r_iinc (q := 46) (v := nI (i9 + 1)) (lv' := [(3, .int (nI (i9 + 1))), (0, .ref m0), (1, .int (nI k9)), (2, .int (nI i))]) C 0 dX8_print_43 rfl (nI_1 i9) (by decide) rfl rfl ?_
        refine r_goto (tgt := 17) C dX8_print_46 (by decide) ?_
        refine r_sub (lv' := [(3, .int (nI (i9 + 1))), (0, .ref m0), (1, .int (nI k9)), (2, .int (nI i))]) [0, 1, 2, 3] rfl ?_
        exact ih (i9 + 1) u52w (by omega) (by rw [fmB, if_pos (by omega)]; exact u52F) u52h
  exact loop 8 0 _ (by omega) hF0 hf0

set_option maxHeartbeats 4000000 in
set_option maxRecDepth 20000 in
theorem y_prt_f {l : Launch} {g : cx_G} {w : wd_T} {c m0 tk gN rN tN : Nat} {fl : Int32} {fn wn : Nat → Nat} {gp by9 rD tD tV tT : Nat → Int32} (hM : MdAt g w m0 fl tk gN rN tN fn wn gp by9 rD tD tV tT) (hI : Iv9 c tk gN rN tN fn wn by9 tD tV tT) {k9 : Nat} (hk9 : k9 < tk) {y : Int32} (hy : y < 0 ∨ nI (fmT (fv9 fn k9)).length ≤ y) : Mt l g yX8_print cX8_print 4 (some .int) 2 0 0 w [.ref m0, .int (nI k9), .int y] (fun v w' => v = some (.int (-1)) ∧ MdAt g w' m0 (nI 0) tk gN rN tN fn wn gp by9 rD tD tV tT ∧ Fm w w') := by
  refine mt_of RX8 "print" rfl rfl (by decide) (Nat.le_of_ble_eq_true rfl) [(0, .ref m0), (1, .int (nI k9)), (2, .int y)] rfl ?_
  intro k hkl C hin
  subst hkl
  obtain ⟨ad, rS, fS, lv, fo, h0, hks, h3, h4, h5, h6, h7, h8, h9, h10, hsc, h16, h17⟩ := id hM
  obtain ⟨i0, i1, i2, i3, i4, i5, i6, i7, i8, i9, i10⟩ := id hI
  have b8 := i4 k9 hk9 8 (by decide)
  have m8 : fmx9 8 = 99 := rfl
  have b3 := i4 k9 hk9 3 (by decide)
  have m3 : fmx9 3 = 1000000000 := rfl
  have n5 := i5 k9 hk9
  have hlt := fv9_lt hI hk9
  have hvb : ∀ i, i < 9 → fv9 fn k9 i < 10000000000 := fun i hi => by have := (hlt i hi).2; omega
  have hb := fv9_fb hI hk9
  have ltx := fmT_len hb
  refine r_aload_n (q := 1) C 0 dX8_print_0 rfl rfl ?_
  refine r_iload_n (q := 2) C 1 dX8_print_1 rfl rfl ?_
  refine r_callV (q := 5) (t := 0) (As := [.int (nI k9)]) (st := []) C koX8 h0 (m_ist_y h0 (by omega) hk9) q847 q844 q846 qp25 q9 rfl ⟨by decide, by decide⟩ (show (parseMethodDescriptor yX8_isTicket.desc).map (fun d => d.parameters.length) = some 1 by decide +kernel) (by decide) (by decide) (by decide) (by decide) (Nat.le_of_ble_eq_true rfl) rfl dX8_print_2 rfl ?_
  rintro v9 w2 ⟨rfl, e0, ef1⟩
  show V g k 4 w2 0 0 (kQ g k (fun v w' => v = some (.int (-1)) ∧ MdAt g w' m0 (nI 0) tk gN rN tN fn wn gp by9 rD tD tV tT ∧ Fm w w') 0 0) 5 [(0, .ref m0), (1, .int (nI k9)), (2, .int y)] [.int (nI 1)]
  refine r_if_ne_t (tgt := 10) C dX8_print_5 (by decide) (by decide) ?_
  refine r_aload_n (q := 11) C 0 dX8_print_10 rfl rfl ?_
  refine r_iconst (q := 12) C (nI 0) dX8_print_11 (by decide) rfl ?_
  refine r_put (q := 15) (t := 0) (w' := wd_set w2 0 m0 (mo ad (nI tN) (nI tk) (nI (tk + gN)) (nI gN) (nI rN) (nI 0) rS (nI 0))) C koX8 e0 24 (by decide) q724 rfl rfl rfl rfl (Nat.le_of_ble_eq_true rfl) dX8_print_12 rfl rfl ?_
  refine r_iconst (q := 16) C (nI 0) dX8_print_15 (by decide) rfl ?_
  refine r_istore_n (q := 17) (lv' := [(3, .int (nI 0)), (0, .ref m0), (1, .int (nI k9)), (2, .int y)]) C dX8_print_16 (by decide) rfl rfl ?_
  refine r_sub (lv' := [(3, .int (nI 0)), (0, .ref m0), (1, .int (nI k9)), (2, .int y)]) [0, 1, 2, 3] rfl ?_
  have hF0 : FoAt g (wd_set w2 0 m0 (mo ad (nI tN) (nI tk) (nI (tk + gN)) (nI gN) (nI rN) (nI 0) rS (nI 0))) m0 ad (nI tN) (nI tk) (nI (tk + gN)) (nI gN) (nI rN) (nI 0) rS ([]) := ⟨fo, wd_eq, ((wd_ne (by decide)).trans ((ef1 17 (by omega)).trans h17)), fun j hj => absurd hj (Nat.not_lt_zero j)⟩
  have hf0 : ∀ t, t ≠ 0 → t ≠ 17 → (wd_set w2 0 m0 (mo ad (nI tN) (nI tk) (nI (tk + gN)) (nI gN) (nI rN) (nI 0) rS (nI 0))) t = w t := fun t a b => (wd_ne a).trans (ef1 t a)
  have loop : ∀ (r i9 : Nat)  (w1 : wd_T), i9 + r = 8 → (FoAt g w1 m0 ad (nI tN) (nI tk) (nI (tk + gN)) (nI gN) (nI rN) (nI 0) rS (fmB (fv9 fn k9) i9)) → (∀ t, t ≠ 0 → t ≠ 17 → w1 t = w t) → V g k 4 w1 0 0 (kQ g k (fun v w' => v = some (.int (-1)) ∧ MdAt g w' m0 (nI 0) tk gN rN tN fn wn gp by9 rD tD tV tT ∧ Fm w w') 0 0) 17 [(3, .int (nI i9)), (0, .ref m0), (1, .int (nI k9)), (2, .int y)] [] := by
    intro r
    induction r with
    | zero =>
      intro i9  w1 hi hF1 hf1
      obtain rfl : 8 = i9 := by omega
      obtain ⟨z4f, z40, z41, z42⟩ := id hF1
      refine r_iload_n (q := 18) C 0 dX8_print_17 rfl rfl ?_
      refine r_bipush (q := 20) C (nI 8) dX8_print_18 (by decide) rfl ?_
      refine r_icmp_ge_t (tgt := 49) C dX8_print_20 (by decide) ((nI_leI (a := 8) (b := 8) (by omega) (by omega)).mpr (by omega)) ?_
      refine r_aload_n (q := 50) C 1 dX8_print_49 rfl rfl ?_
      refine r_iload_n (q := 51) C 2 dX8_print_50 rfl rfl ?_
      by_cases hz : fn (9 * k9 + 8) = 0
      · refine r_callV (q := 54) (t := 0) (As := [.int (nI k9)]) (st := []) C koX8 z40 (m_isv_n z40 ((hf1 6 (by decide) (by decide)).trans h6) (by omega) (by omega) hz) q851 q848 q850 qp26 q9 rfl ⟨by decide, by decide⟩ (show (parseMethodDescriptor yX8_isVoid.desc).map (fun d => d.parameters.length) = some 1 by decide +kernel) (by decide) (by decide) (by decide) (by decide) (Nat.le_of_ble_eq_true rfl) rfl dX8_print_51 rfl ?_
        rintro v9 w5 ⟨rfl, rfl⟩
        show V g k 4 w1 0 0 (kQ g k (fun v w' => v = some (.int (-1)) ∧ MdAt g w' m0 (nI 0) tk gN rN tN fn wn gp by9 rD tD tV tT ∧ Fm w w') 0 0) 54 [(3, .int (nI 8)), (0, .ref m0), (1, .int (nI k9)), (2, .int y)] [.int (nI 0)]
        refine r_if_eq_t (tgt := 104) C dX8_print_54 (by decide) (by decide) ?_
        have hF5 : FoAt g w1 m0 ad (nI tN) (nI tk) (nI (tk + gN)) (nI gN) (nI rN) (nI 0) rS (fmT (fv9 fn k9)) := by unfold fmT; rw [if_pos (show fv9 fn k9 8 = 0 from hz)]; exact hF1
        obtain ⟨z6f, z60, z61, z62⟩ := id hF5
        refine r_iload_n (q := 105) C 3 dX8_print_104 rfl rfl ?_
        refine r_if_lt (q := 108) (tgt := 125) C dX8_print_105 (by decide) rfl (fun hc7 => ?_) (fun hc7 => ?_)
        · refine r_iconst (q := 126) C ((-1)) dX8_print_125 (by decide) rfl ?_
          exact r_iret C rfl (by decide) (by decide) dX8_print_126 ⟨rfl, ⟨ad, _, _, _, _, z60, hks.kept (fun t _ _ => hf1 t (by omega) (by omega)), ((hf1 3 (by decide) (by decide)).trans h3), ((hf1 4 (by decide) (by decide)).trans h4), ((hf1 5 (by decide) (by decide)).trans h5), ((hf1 6 (by decide) (by decide)).trans h6), ((hf1 7 (by decide) (by decide)).trans h7), ((hf1 8 (by decide) (by decide)).trans h8), ((hf1 9 (by decide) (by decide)).trans h9), ((hf1 10 (by decide) (by decide)).trans h10), hsc.kept (fun t _ _ => hf1 t (by omega) (by omega)), ((hf1 16 (by decide) (by decide)).trans h16), z61⟩, fun t ht => hf1 t (by omega) (by omega)⟩
        · refine r_iload_n (q := 109) C 3 dX8_print_108 rfl rfl ?_
          refine r_aload_n (q := 110) C 1 dX8_print_109 rfl rfl ?_
          refine r_get (q := 113) (t := 0) C koX8 z60 24 (by decide) q724 rfl rfl dX8_print_110 rfl ?_
          refine r_icmp_ge_t (tgt := 125) C dX8_print_113 (by decide) (by rcases hy with z | z; exact absurd z hc7; exact z) ?_
          refine r_iconst (q := 126) C ((-1)) dX8_print_125 (by decide) rfl ?_
          exact r_iret C rfl (by decide) (by decide) dX8_print_126 ⟨rfl, ⟨ad, _, _, _, _, z60, hks.kept (fun t _ _ => hf1 t (by omega) (by omega)), ((hf1 3 (by decide) (by decide)).trans h3), ((hf1 4 (by decide) (by decide)).trans h4), ((hf1 5 (by decide) (by decide)).trans h5), ((hf1 6 (by decide) (by decide)).trans h6), ((hf1 7 (by decide) (by decide)).trans h7), ((hf1 8 (by decide) (by decide)).trans h8), ((hf1 9 (by decide) (by decide)).trans h9), ((hf1 10 (by decide) (by decide)).trans h10), hsc.kept (fun t _ _ => hf1 t (by omega) (by omega)), ((hf1 16 (by decide) (by decide)).trans h16), z61⟩, fun t ht => hf1 t (by omega) (by omega)⟩
      · refine r_callV (q := 54) (t := 0) (As := [.int (nI k9)]) (st := []) C koX8 z40 (m_isv_y z40 ((hf1 6 (by decide) (by decide)).trans h6) (by omega) (by omega) hz) q851 q848 q850 qp26 q9 rfl ⟨by decide, by decide⟩ (show (parseMethodDescriptor yX8_isVoid.desc).map (fun d => d.parameters.length) = some 1 by decide +kernel) (by decide) (by decide) (by decide) (by decide) (Nat.le_of_ble_eq_true rfl) rfl dX8_print_51 rfl ?_
        rintro v9 w10 ⟨rfl, rfl⟩
        show V g k 4 w1 0 0 (kQ g k (fun v w' => v = some (.int (-1)) ∧ MdAt g w' m0 (nI 0) tk gN rN tN fn wn gp by9 rD tD tV tT ∧ Fm w w') 0 0) 54 [(3, .int (nI 8)), (0, .ref m0), (1, .int (nI k9)), (2, .int y)] [.int (nI 1)]
        refine r_if_eq_f (q := 57) (tgt := 104) C dX8_print_54 (by decide) rfl (by decide) ?_
        have l8 := fmB_len hb 8 (by decide)
        have l9 := ln9_le 8 (by decide)
        have d8 := dgs_len (wd9_1 8 (by decide)) (hb.1 8 (by decide)) 10
        have l7 : wd9 8 = 2 := rfl
        have hG0 : FoAt g w1 m0 ad (nI tN) (nI tk) (nI (tk + gN)) (nI gN) (nI rN) (nI 0) rS (fmB (fv9 fn k9) 8 ++ vdB 0) := by rw [vdB, List.append_nil]; exact hF1
        refine r_aload_n (q := 58) C 1 dX8_print_57 rfl rfl ?_
        refine r_bipush (q := 60) C (nI 32) dX8_print_58 (by decide) rfl ?_
        obtain ⟨z11f, z110, z111, z112⟩ := id hG0
        refine r_callV (q := 63) (t := 0) (As := [.int (nI 32)]) (st := []) C koX8 z110 (m_put hG0 (by rw [List.length_append, vdB_len]; omega)) q894 q891 q893 qp27 q9 rfl ⟨by decide, by decide⟩ (show (parseMethodDescriptor yX8_put.desc).map (fun d => d.parameters.length) = some 1 by decide +kernel) (by decide) (by decide) (by decide) (by decide) (Nat.le_of_ble_eq_true rfl) rfl dX8_print_60 rfl ?_
        rintro v9 u13w ⟨rfl, u13F, u13e⟩
        have u13h : ∀ t, t ≠ 0 → t ≠ 17 → u13w t = w t := fun t a b => (u13e t a b).trans (hf1 t a b)
        show V g k 4 u13w 0 0 (kQ g k (fun v w' => v = some (.int (-1)) ∧ MdAt g w' m0 (nI 0) tk gN rN tN fn wn gp by9 rD tD tV tT ∧ Fm w w') 0 0) 63 [(3, .int (nI 8)), (0, .ref m0), (1, .int (nI k9)), (2, .int y)] []
        have hG1 : FoAt g u13w m0 ad (nI tN) (nI tk) (nI (tk + gN)) (nI gN) (nI rN) (nI 0) rS (fmB (fv9 fn k9) 8 ++ vdB 1) := by rw [vdB, ← List.append_assoc]; exact u13F
        refine r_aload_n (q := 64) C 1 dX8_print_63 rfl rfl ?_
        refine r_bipush (q := 66) C (nI 86) dX8_print_64 (by decide) rfl ?_
        obtain ⟨z14f, z140, z141, z142⟩ := id hG1
        refine r_callV (q := 69) (t := 0) (As := [.int (nI 86)]) (st := []) C koX8 z140 (m_put hG1 (by rw [List.length_append, vdB_len]; omega)) q894 q891 q893 qp27 q9 rfl ⟨by decide, by decide⟩ (show (parseMethodDescriptor yX8_put.desc).map (fun d => d.parameters.length) = some 1 by decide +kernel) (by decide) (by decide) (by decide) (by decide) (Nat.le_of_ble_eq_true rfl) rfl dX8_print_66 rfl ?_
        rintro v9 u16w ⟨rfl, u16F, u16e⟩
        have u16h : ∀ t, t ≠ 0 → t ≠ 17 → u16w t = w t := fun t a b => (u16e t a b).trans (u13h t a b)
        show V g k 4 u16w 0 0 (kQ g k (fun v w' => v = some (.int (-1)) ∧ MdAt g w' m0 (nI 0) tk gN rN tN fn wn gp by9 rD tD tV tT ∧ Fm w w') 0 0) 69 [(3, .int (nI 8)), (0, .ref m0), (1, .int (nI k9)), (2, .int y)] []
        have hG2 : FoAt g u16w m0 ad (nI tN) (nI tk) (nI (tk + gN)) (nI gN) (nI rN) (nI 0) rS (fmB (fv9 fn k9) 8 ++ vdB 2) := by rw [vdB, ← List.append_assoc]; exact u16F
        refine r_aload_n (q := 70) C 1 dX8_print_69 rfl rfl ?_
        refine r_bipush (q := 72) C (nI 79) dX8_print_70 (by decide) rfl ?_
        obtain ⟨z17f, z170, z171, z172⟩ := id hG2
        refine r_callV (q := 75) (t := 0) (As := [.int (nI 79)]) (st := []) C koX8 z170 (m_put hG2 (by rw [List.length_append, vdB_len]; omega)) q894 q891 q893 qp27 q9 rfl ⟨by decide, by decide⟩ (show (parseMethodDescriptor yX8_put.desc).map (fun d => d.parameters.length) = some 1 by decide +kernel) (by decide) (by decide) (by decide) (by decide) (Nat.le_of_ble_eq_true rfl) rfl dX8_print_72 rfl ?_
        rintro v9 u19w ⟨rfl, u19F, u19e⟩
        have u19h : ∀ t, t ≠ 0 → t ≠ 17 → u19w t = w t := fun t a b => (u19e t a b).trans (u16h t a b)
        show V g k 4 u19w 0 0 (kQ g k (fun v w' => v = some (.int (-1)) ∧ MdAt g w' m0 (nI 0) tk gN rN tN fn wn gp by9 rD tD tV tT ∧ Fm w w') 0 0) 75 [(3, .int (nI 8)), (0, .ref m0), (1, .int (nI k9)), (2, .int y)] []
        have hG3 : FoAt g u19w m0 ad (nI tN) (nI tk) (nI (tk + gN)) (nI gN) (nI rN) (nI 0) rS (fmB (fv9 fn k9) 8 ++ vdB 3) := by rw [vdB, ← List.append_assoc]; exact u19F
        refine r_aload_n (q := 76) C 1 dX8_print_75 rfl rfl ?_
        refine r_bipush (q := 78) C (nI 73) dX8_print_76 (by decide) rfl ?_
        obtain ⟨z20f, z200, z201, z202⟩ := id hG3
        refine r_callV (q := 81) (t := 0) (As := [.int (nI 73)]) (st := []) C koX8 z200 (m_put hG3 (by rw [List.length_append, vdB_len]; omega)) q894 q891 q893 qp27 q9 rfl ⟨by decide, by decide⟩ (show (parseMethodDescriptor yX8_put.desc).map (fun d => d.parameters.length) = some 1 by decide +kernel) (by decide) (by decide) (by decide) (by decide) (Nat.le_of_ble_eq_true rfl) rfl dX8_print_78 rfl ?_
        rintro v9 u22w ⟨rfl, u22F, u22e⟩
        have u22h : ∀ t, t ≠ 0 → t ≠ 17 → u22w t = w t := fun t a b => (u22e t a b).trans (u19h t a b)
        show V g k 4 u22w 0 0 (kQ g k (fun v w' => v = some (.int (-1)) ∧ MdAt g w' m0 (nI 0) tk gN rN tN fn wn gp by9 rD tD tV tT ∧ Fm w w') 0 0) 81 [(3, .int (nI 8)), (0, .ref m0), (1, .int (nI k9)), (2, .int y)] []
        have hG4 : FoAt g u22w m0 ad (nI tN) (nI tk) (nI (tk + gN)) (nI gN) (nI rN) (nI 0) rS (fmB (fv9 fn k9) 8 ++ vdB 4) := by rw [vdB, ← List.append_assoc]; exact u22F
        refine r_aload_n (q := 82) C 1 dX8_print_81 rfl rfl ?_
        refine r_bipush (q := 84) C (nI 68) dX8_print_82 (by decide) rfl ?_
        obtain ⟨z23f, z230, z231, z232⟩ := id hG4
        refine r_callV (q := 87) (t := 0) (As := [.int (nI 68)]) (st := []) C koX8 z230 (m_put hG4 (by rw [List.length_append, vdB_len]; omega)) q894 q891 q893 qp27 q9 rfl ⟨by decide, by decide⟩ (show (parseMethodDescriptor yX8_put.desc).map (fun d => d.parameters.length) = some 1 by decide +kernel) (by decide) (by decide) (by decide) (by decide) (Nat.le_of_ble_eq_true rfl) rfl dX8_print_84 rfl ?_
        rintro v9 u25w ⟨rfl, u25F, u25e⟩
        have u25h : ∀ t, t ≠ 0 → t ≠ 17 → u25w t = w t := fun t a b => (u25e t a b).trans (u22h t a b)
        show V g k 4 u25w 0 0 (kQ g k (fun v w' => v = some (.int (-1)) ∧ MdAt g w' m0 (nI 0) tk gN rN tN fn wn gp by9 rD tD tV tT ∧ Fm w w') 0 0) 87 [(3, .int (nI 8)), (0, .ref m0), (1, .int (nI k9)), (2, .int y)] []
        have hG5 : FoAt g u25w m0 ad (nI tN) (nI tk) (nI (tk + gN)) (nI gN) (nI rN) (nI 0) rS (fmB (fv9 fn k9) 8 ++ vdB 5) := by rw [vdB, ← List.append_assoc]; exact u25F
        refine r_aload_n (q := 88) C 1 dX8_print_87 rfl rfl ?_
        refine r_bipush (q := 90) C (nI 32) dX8_print_88 (by decide) rfl ?_
        obtain ⟨z26f, z260, z261, z262⟩ := id hG5
        refine r_callV (q := 93) (t := 0) (As := [.int (nI 32)]) (st := []) C koX8 z260 (m_put hG5 (by rw [List.length_append, vdB_len]; omega)) q894 q891 q893 qp27 q9 rfl ⟨by decide, by decide⟩ (show (parseMethodDescriptor yX8_put.desc).map (fun d => d.parameters.length) = some 1 by decide +kernel) (by decide) (by decide) (by decide) (by decide) (Nat.le_of_ble_eq_true rfl) rfl dX8_print_90 rfl ?_
        rintro v9 u28w ⟨rfl, u28F, u28e⟩
        have u28h : ∀ t, t ≠ 0 → t ≠ 17 → u28w t = w t := fun t a b => (u28e t a b).trans (u25h t a b)
        show V g k 4 u28w 0 0 (kQ g k (fun v w' => v = some (.int (-1)) ∧ MdAt g w' m0 (nI 0) tk gN rN tN fn wn gp by9 rD tD tV tT ∧ Fm w w') 0 0) 93 [(3, .int (nI 8)), (0, .ref m0), (1, .int (nI k9)), (2, .int y)] []
        have hG6 : FoAt g u28w m0 ad (nI tN) (nI tk) (nI (tk + gN)) (nI gN) (nI rN) (nI 0) rS (fmB (fv9 fn k9) 8 ++ vdB 6) := by rw [vdB, ← List.append_assoc]; exact u28F
        refine r_aload_n (q := 94) C 1 dX8_print_93 rfl rfl ?_
        refine r_aload_n (q := 95) C 1 dX8_print_94 rfl rfl ?_
        refine r_iload_n (q := 96) C 2 dX8_print_95 rfl rfl ?_
        refine r_bipush (q := 98) C (nI 8) dX8_print_96 (by decide) rfl ?_
        obtain ⟨z29f, z290, z291, z292⟩ := id hG6
        refine r_callV (q := 101) (t := 0) (As := [.int (nI k9), .int (nI 8)]) (st := [.ref m0]) C koX8 z290 (m_at_y z290 ((u28h 6 (by decide) (by decide)).trans h6) (by omega) hk9 n5 (i := 8) (by omega)) q859 q886 q857 q858 q9 rfl ⟨by decide, by decide⟩ (show (parseMethodDescriptor yX8_at.desc).map (fun d => d.parameters.length) = some 2 by decide +kernel) (by decide) (by decide) (by decide) (by decide) (Nat.le_of_ble_eq_true rfl) rfl dX8_print_98 rfl ?_
        rintro v9 u30w ⟨rfl, u300, u30e⟩
        have u30F : FoAt g u30w m0 ad (nI tN) (nI tk) (nI (tk + gN)) (nI gN) (nI rN) (nI 0) rS (fmB (fv9 fn k9) 8 ++ vdB 6) := ⟨_, u300, (u30e 17 (by decide)).trans z291, z292⟩
        show V g k 4 u30w 0 0 (kQ g k (fun v w' => v = some (.int (-1)) ∧ MdAt g w' m0 (nI 0) tk gN rN tN fn wn gp by9 rD tD tV tT ∧ Fm w w') 0 0) 101 [(3, .int (nI 8)), (0, .ref m0), (1, .int (nI k9)), (2, .int y)] [.long (lN (fv9 fn k9 8)), .ref m0]
        obtain ⟨z32f, z320, z321, z322⟩ := id u30F
        refine r_callV (q := 104) (t := 0) (As := [.long (lN (fv9 fn k9 8))]) (st := []) C koX8 z320 (m_pnum u30F (hvb 8 (by omega)) (by rw [List.length_append, vdB_len]; omega)) q898 q895 q897 qp28 q9 rfl ⟨by decide, by decide⟩ (show (parseMethodDescriptor yX8_putNumber.desc).map (fun d => d.parameters.length) = some 1 by decide +kernel) (by decide) (by decide) (by decide) (by decide) (Nat.le_of_ble_eq_true rfl) rfl dX8_print_101 rfl ?_
        rintro v9 u34w ⟨rfl, u34F, u34e⟩
        have u34h : ∀ t, t ≠ 0 → t ≠ 17 → u34w t = w t := fun t a b => (u34e t a b).trans ((u30e t a).trans (u28h t a b))
        show V g k 4 u34w 0 0 (kQ g k (fun v w' => v = some (.int (-1)) ∧ MdAt g w' m0 (nI 0) tk gN rN tN fn wn gp by9 rD tD tV tT ∧ Fm w w') 0 0) 104 [(3, .int (nI 8)), (0, .ref m0), (1, .int (nI k9)), (2, .int y)] []
        have hF5 : FoAt g u34w m0 ad (nI tN) (nI tk) (nI (tk + gN)) (nI gN) (nI rN) (nI 0) rS (fmT (fv9 fn k9)) := by unfold fmT; rw [if_neg (show ¬ fv9 fn k9 8 = 0 from hz)]; exact u34F
        obtain ⟨z35f, z350, z351, z352⟩ := id hF5
        refine r_iload_n (q := 105) C 3 dX8_print_104 rfl rfl ?_
        refine r_if_lt (q := 108) (tgt := 125) C dX8_print_105 (by decide) rfl (fun hc36 => ?_) (fun hc36 => ?_)
        · refine r_iconst (q := 126) C ((-1)) dX8_print_125 (by decide) rfl ?_
          exact r_iret C rfl (by decide) (by decide) dX8_print_126 ⟨rfl, ⟨ad, _, _, _, _, z350, hks.kept (fun t _ _ => u34h t (by omega) (by omega)), ((u34h 3 (by decide) (by decide)).trans h3), ((u34h 4 (by decide) (by decide)).trans h4), ((u34h 5 (by decide) (by decide)).trans h5), ((u34h 6 (by decide) (by decide)).trans h6), ((u34h 7 (by decide) (by decide)).trans h7), ((u34h 8 (by decide) (by decide)).trans h8), ((u34h 9 (by decide) (by decide)).trans h9), ((u34h 10 (by decide) (by decide)).trans h10), hsc.kept (fun t _ _ => u34h t (by omega) (by omega)), ((u34h 16 (by decide) (by decide)).trans h16), z351⟩, fun t ht => u34h t (by omega) (by omega)⟩
        · refine r_iload_n (q := 109) C 3 dX8_print_108 rfl rfl ?_
          refine r_aload_n (q := 110) C 1 dX8_print_109 rfl rfl ?_
          refine r_get (q := 113) (t := 0) C koX8 z350 24 (by decide) q724 rfl rfl dX8_print_110 rfl ?_
          refine r_icmp_ge_t (tgt := 125) C dX8_print_113 (by decide) (by rcases hy with z | z; exact absurd z hc36; exact z) ?_
          refine r_iconst (q := 126) C ((-1)) dX8_print_125 (by decide) rfl ?_
          exact r_iret C rfl (by decide) (by decide) dX8_print_126 ⟨rfl, ⟨ad, _, _, _, _, z350, hks.kept (fun t _ _ => u34h t (by omega) (by omega)), ((u34h 3 (by decide) (by decide)).trans h3), ((u34h 4 (by decide) (by decide)).trans h4), ((u34h 5 (by decide) (by decide)).trans h5), ((u34h 6 (by decide) (by decide)).trans h6), ((u34h 7 (by decide) (by decide)).trans h7), ((u34h 8 (by decide) (by decide)).trans h8), ((u34h 9 (by decide) (by decide)).trans h9), ((u34h 10 (by decide) (by decide)).trans h10), hsc.kept (fun t _ _ => u34h t (by omega) (by omega)), ((u34h 16 (by decide) (by decide)).trans h16), z351⟩, fun t ht => u34h t (by omega) (by omega)⟩
    | succ r ih =>
      intro i9  w1 hi hF1 hf1
      obtain ⟨z40f, z400, z401, z402⟩ := id hF1
      refine r_iload_n (q := 18) C 0 dX8_print_17 rfl rfl ?_
      refine r_bipush (q := 20) C (nI 8) dX8_print_18 (by decide) rfl ?_
      refine r_icmp_ge_f (q := 23) (tgt := 49) C dX8_print_20 (by decide) rfl (fun z => absurd ((nI_leI (a := 8) (b := i9) (by omega) (by omega)).mp z) (by omega)) ?_
      refine r_iload_n (q := 24) C 0 dX8_print_23 rfl rfl ?_
      have hm := fmB_len hb (i9 + 1) (by omega)
      have hm2 := ln9_le (i9 + 1) (by omega)
      rw [fmB, List.length_append] at hm
      refine r_if_le (q := 27) (tgt := 33) C dX8_print_24 (by decide) rfl (fun hc41 => ?_) (fun hc41 => ?_)
      · have hc41 : i9 ≤ 0 := (nI_leI (a := i9) (b := 0) (by omega) (by omega)).mp hc41
        rw [if_neg (by omega)] at hm
        refine r_aload_n (q := 34) C 1 dX8_print_33 rfl rfl ?_
        refine r_aload_n (q := 35) C 1 dX8_print_34 rfl rfl ?_
        refine r_iload_n (q := 36) C 2 dX8_print_35 rfl rfl ?_
        refine r_iload_n (q := 37) C 0 dX8_print_36 rfl rfl ?_
        obtain ⟨z43f, z430, z431, z432⟩ := id hF1
        refine r_callV (q := 40) (t := 0) (As := [.int (nI k9), .int (nI i9)]) (st := [.ref m0]) C koX8 z430 (m_at_y z430 ((hf1 6 (by decide) (by decide)).trans h6) (by omega) hk9 n5 (i := i9) (by omega)) q859 q886 q857 q858 q9 rfl ⟨by decide, by decide⟩ (show (parseMethodDescriptor yX8_at.desc).map (fun d => d.parameters.length) = some 2 by decide +kernel) (by decide) (by decide) (by decide) (by decide) (Nat.le_of_ble_eq_true rfl) rfl dX8_print_37 rfl ?_
        rintro v9 u44w ⟨rfl, u440, u44e⟩
        have u44F : FoAt g u44w m0 ad (nI tN) (nI tk) (nI (tk + gN)) (nI gN) (nI rN) (nI 0) rS (fmB (fv9 fn k9) i9) := ⟨_, u440, (u44e 17 (by decide)).trans z431, z432⟩
        show V g k 4 u44w 0 0 (kQ g k (fun v w' => v = some (.int (-1)) ∧ MdAt g w' m0 (nI 0) tk gN rN tN fn wn gp by9 rD tD tV tT ∧ Fm w w') 0 0) 40 [(3, .int (nI i9)), (0, .ref m0), (1, .int (nI k9)), (2, .int y)] [.long (lN (fv9 fn k9 i9)), .ref m0]
        obtain ⟨z46f, z460, z461, z462⟩ := id u44F
        refine r_callV (q := 43) (t := 0) (As := [.long (lN (fv9 fn k9 i9))]) (st := []) C koX8 z460 (m_pnum u44F (hvb i9 (by omega)) (by omega)) q898 q895 q897 qp28 q9 rfl ⟨by decide, by decide⟩ (show (parseMethodDescriptor yX8_putNumber.desc).map (fun d => d.parameters.length) = some 1 by decide +kernel) (by decide) (by decide) (by decide) (by decide) (Nat.le_of_ble_eq_true rfl) rfl dX8_print_40 rfl ?_
        rintro v9 u48w ⟨rfl, u48F, u48e⟩
        have u48h : ∀ t, t ≠ 0 → t ≠ 17 → u48w t = w t := fun t a b => (u48e t a b).trans ((u44e t a).trans (hf1 t a b))
        show V g k 4 u48w 0 0 (kQ g k (fun v w' => v = some (.int (-1)) ∧ MdAt g w' m0 (nI 0) tk gN rN tN fn wn gp by9 rD tD tV tT ∧ Fm w w') 0 0) 43 [(3, .int (nI i9)), (0, .ref m0), (1, .int (nI k9)), (2, .int y)] []
        refine r_iinc (q := 46) (v := nI (i9 + 1)) (lv' := [(3, .int (nI (i9 + 1))), (0, .ref m0), (1, .int (nI k9)), (2, .int y)]) C 0 dX8_print_43 rfl (nI_1 i9) (by decide) rfl rfl ?_
        refine r_goto (tgt := 17) C dX8_print_46 (by decide) ?_
        refine r_sub (lv' := [(3, .int (nI (i9 + 1))), (0, .ref m0), (1, .int (nI k9)), (2, .int y)]) [0, 1, 2, 3] rfl ?_
        exact ih (i9 + 1) u48w (by omega) (by rw [fmB, if_neg (by omega)]; exact u48F) u48h
      · have hc41 : ¬ i9 ≤ 0 := fun z => hc41 ((nI_leI (a := i9) (b := 0) (by omega) (by omega)).mpr z)
        rw [if_pos (by omega), List.length_append, List.length_singleton] at hm
        refine r_aload_n (q := 28) C 1 dX8_print_27 rfl rfl ?_
        refine r_bipush (q := 30) C (nI 32) dX8_print_28 (by decide) rfl ?_
        obtain ⟨z50f, z500, z501, z502⟩ := id hF1
        refine r_callV (q := 33) (t := 0) (As := [.int (nI 32)]) (st := []) C koX8 z500 (m_put hF1 (by omega)) q894 q891 q893 qp27 q9 rfl ⟨by decide, by decide⟩ (show (parseMethodDescriptor yX8_put.desc).map (fun d => d.parameters.length) = some 1 by decide +kernel) (by decide) (by decide) (by decide) (by decide) (Nat.le_of_ble_eq_true rfl) rfl dX8_print_30 rfl ?_
        rintro v9 u52w ⟨rfl, u52F, u52e⟩
        have u52h : ∀ t, t ≠ 0 → t ≠ 17 → u52w t = w t := fun t a b => (u52e t a b).trans (hf1 t a b)
        show V g k 4 u52w 0 0 (kQ g k (fun v w' => v = some (.int (-1)) ∧ MdAt g w' m0 (nI 0) tk gN rN tN fn wn gp by9 rD tD tV tT ∧ Fm w w') 0 0) 33 [(3, .int (nI i9)), (0, .ref m0), (1, .int (nI k9)), (2, .int y)] []
        refine r_aload_n (q := 34) C 1 dX8_print_33 rfl rfl ?_
        refine r_aload_n (q := 35) C 1 dX8_print_34 rfl rfl ?_
        refine r_iload_n (q := 36) C 2 dX8_print_35 rfl rfl ?_
        refine r_iload_n (q := 37) C 0 dX8_print_36 rfl rfl ?_
        obtain ⟨z53f, z530, z531, z532⟩ := id u52F
        refine r_callV (q := 40) (t := 0) (As := [.int (nI k9), .int (nI i9)]) (st := [.ref m0]) C koX8 z530 (m_at_y z530 ((u52h 6 (by decide) (by decide)).trans h6) (by omega) hk9 n5 (i := i9) (by omega)) q859 q886 q857 q858 q9 rfl ⟨by decide, by decide⟩ (show (parseMethodDescriptor yX8_at.desc).map (fun d => d.parameters.length) = some 2 by decide +kernel) (by decide) (by decide) (by decide) (by decide) (Nat.le_of_ble_eq_true rfl) rfl dX8_print_37 rfl ?_
        rintro v9 u54w ⟨rfl, u540, u54e⟩
        have u54F : FoAt g u54w m0 ad (nI tN) (nI tk) (nI (tk + gN)) (nI gN) (nI rN) (nI 0) rS (fmB (fv9 fn k9) i9 ++ [chB 32]) := ⟨_, u540, (u54e 17 (by decide)).trans z531, z532⟩
        show V g k 4 u54w 0 0 (kQ g k (fun v w' => v = some (.int (-1)) ∧ MdAt g w' m0 (nI 0) tk gN rN tN fn wn gp by9 rD tD tV tT ∧ Fm w w') 0 0) 40 [(3, .int (nI i9)), (0, .ref m0), (1, .int (nI k9)), (2, .int y)] [.long (lN (fv9 fn k9 i9)), .ref m0]
        obtain ⟨z56f, z560, z561, z562⟩ := id u54F
        refine r_callV (q := 43) (t := 0) (As := [.long (lN (fv9 fn k9 i9))]) (st := []) C koX8 z560 (m_pnum u54F (hvb i9 (by omega)) (by rw [List.length_append, List.length_singleton]; omega)) q898 q895 q897 qp28 q9 rfl ⟨by decide, by decide⟩ (show (parseMethodDescriptor yX8_putNumber.desc).map (fun d => d.parameters.length) = some 1 by decide +kernel) (by decide) (by decide) (by decide) (by decide) (Nat.le_of_ble_eq_true rfl) rfl dX8_print_40 rfl ?_
        rintro v9 u58w ⟨rfl, u58F, u58e⟩
        have u58h : ∀ t, t ≠ 0 → t ≠ 17 → u58w t = w t := fun t a b => (u58e t a b).trans ((u54e t a).trans (u52h t a b))
        show V g k 4 u58w 0 0 (kQ g k (fun v w' => v = some (.int (-1)) ∧ MdAt g w' m0 (nI 0) tk gN rN tN fn wn gp by9 rD tD tV tT ∧ Fm w w') 0 0) 43 [(3, .int (nI i9)), (0, .ref m0), (1, .int (nI k9)), (2, .int y)] []
        refine r_iinc (q := 46) (v := nI (i9 + 1)) (lv' := [(3, .int (nI (i9 + 1))), (0, .ref m0), (1, .int (nI k9)), (2, .int y)]) C 0 dX8_print_43 rfl (nI_1 i9) (by decide) rfl rfl ?_
        refine r_goto (tgt := 17) C dX8_print_46 (by decide) ?_
        refine r_sub (lv' := [(3, .int (nI (i9 + 1))), (0, .ref m0), (1, .int (nI k9)), (2, .int y)]) [0, 1, 2, 3] rfl ?_
        exact ih (i9 + 1) u58w (by omega) (by rw [fmB, if_pos (by omega)]; exact u58F) u58h
  exact loop 8 0 _ (by omega) hF0 hf0
