/-! the law: its loop and its start -/
set_option maxHeartbeats 4000000 in
set_option maxRecDepth 20000 in
theorem law_V {g : cx_G} {k : kx_T} {b L : Nat} {xs : Nat → Int32} {Q : State → Prop} (C : Cx g k RL cL_law 7 ret 19 600288 7293322) (hX : KX g (kxs k)) (hlt : (kxl k).stackTraces = false) (hz : va_T .int b L (fun j => .int (xs j)) (cx_A g) (kxs k) (gH g)) (hL : L ≤ 480) (hend : ∀ (w : wd_T) (cells slots : Nat) (lv : List (Nat × Value)), cells ≤ 600288 → slots ≤ 7293322 → V g k 7 w cells slots Q 1017 lv [.int (nI 1)]) : V g k 7 (fun _ => none) 0 0 Q 0 [(0, .ref b)] [] := by
  have loop : ∀ (r c : Nat) (w1 : wd_T) (a0 m0 ao : Nat), c + r = 48 → St9 g w1 c a0 m0 ao → V g k 7 w1 (14 + 18 + 1 + 7 * c) (10000 + 40000 + 1015 * c) Q 23 [(0, .ref b), (1, .ref a0), (2, .ref m0), (3, .ref ao), (4, .int (nI (10 * c)))] [] := by
    intro r
    induction r with
    | zero =>
      intro c w1 a0 m0 ao hi hS
      refine r_iload (q := 25) C 4 dL_law_23 rfl rfl ?_
      refine r_aload_n (q := 26) C 0 dL_law_25 rfl rfl ?_
      refine r_slen (q := 27) C hz dL_law_26 rfl ?_
      refine r_bipush (q := 29) C (nI 10) dL_law_27 (by decide) rfl ?_
      refine r_isub (q := 30) C dL_law_29 rfl ?_
      by_cases hL10 : 10 ≤ L
      · refine r_ti (show ((nI L) - (nI 10) : Int32) = nI (L - 10) from pk_sub hL10) ?_
        refine r_icmp_gt_t (tgt := 1016) C dL_law_30 (by decide) ((nI_ltI (a := (L - 10)) (b := (10 * c)) (by omega) (by omega)).mpr (by omega)) ?_
        refine r_iconst (q := 1017) C (nI 1) dL_law_1016 (by decide) rfl ?_
        exact hend _ _ _ _ (by omega) (by omega)
      · refine r_icmp_gt_t (tgt := 1016) C dL_law_30 (by decide) (Int32.lt_of_lt_of_le (neg10 L (by omega)) ((nI_leI (a := 0) (b := 10 * c) (by omega) (by omega)).mpr (Nat.zero_le _))) ?_
        refine r_iconst (q := 1017) C (nI 1) dL_law_1016 (by decide) rfl ?_
        exact hend _ _ _ _ (by omega) (by omega)
    | succ r ih =>
      intro c w1 a0 m0 ao hi hS
      refine r_iload (q := 25) C 4 dL_law_23 rfl rfl ?_
      refine r_aload_n (q := 26) C 0 dL_law_25 rfl rfl ?_
      refine r_slen (q := 27) C hz dL_law_26 rfl ?_
      refine r_bipush (q := 29) C (nI 10) dL_law_27 (by decide) rfl ?_
      refine r_isub (q := 30) C dL_law_29 rfl ?_
      by_cases hL10 : 10 ≤ L
      · refine r_ti (show ((nI L) - (nI 10) : Int32) = nI (L - 10) from pk_sub hL10) ?_
        refine r_icmp_gt (q := 33) (tgt := 1016) C dL_law_30 (by decide) rfl (fun hc2 => ?_) (fun hc2 => ?_)
        · have hc2 : (L - 10) < (10 * c) := (nI_ltI (a := (L - 10)) (b := (10 * c)) (by omega) (by omega)).mp hc2
          refine r_iconst (q := 1017) C (nI 1) dL_law_1016 (by decide) rfl ?_
          exact hend _ _ _ _ (by omega) (by omega)
        · have hc2 : ¬ (L - 10) < (10 * c) := fun z => hc2 ((nI_ltI (a := (L - 10)) (b := (10 * c)) (by omega) (by omega)).mpr z)
          refine r_aload_n (q := 34) C 0 dL_law_33 rfl rfl ?_
          refine r_iload (q := 36) C 4 dL_law_34 rfl rfl ?_
          refine r_siald (q := 37) C hz (10 * c) rfl (by omega) (by omega) dL_law_36 rfl ?_
          refine r_bipush (q := 39) C (nI 31) dL_law_37 (by decide) rfl ?_
          refine r_iand (q := 40) C dL_law_39 rfl ?_
          obtain ⟨n9, hn9, e9⟩ := and31 (xs (10 * c))
          refine r_ti (show ((xs (10 * c)) &&& (nI 31) : Int32) = nI n9 from e9) ?_
          have kk : ∀ w2, St9 g w2 (c + 1) a0 m0 ao → V g k 7 w2 ((14 + 18 + 1 + 7 * c) + 7) ((10000 + 40000 + 1015 * c) + 1015) Q 1010 [(0, .ref b), (1, .ref a0), (2, .ref m0), (3, .ref ao), (4, .int (nI (10 * c)))] [] := by
            intro w2 hS2
            refine r_iinc (q := 1013) (v := nI (10 * c + 10)) (lv' := [(4, .int (nI (10 * c + 10))), (0, .ref b), (1, .ref a0), (2, .ref m0), (3, .ref ao)]) C 4 dL_law_1010 rfl (nI_add (10 * c) 10) (by decide) rfl rfl ?_
            refine r_goto (tgt := 23) C dL_law_1013 (by decide) ?_
            refine r_sub (lv' := [(0, .ref b), (1, .ref a0), (2, .ref m0), (3, .ref ao), (4, .int (nI (10 * c + 10)))]) [1, 2, 3, 4, 0] rfl ?_
            rw [show 10 * c + 10 = 10 * (c + 1) by omega]
            exact r_widen (by omega) (by omega) (ih (c + 1) w2 a0 m0 ao (by omega) hS2)
          by_cases h17 : 17 ≤ n9
          · refine r_tableOut (tgt := 1010) C dL_law_40 (Or.inr (big17 n9 hn9 h17)) (by decide) ?_
            exact r_widen (by omega) (by omega) (kk w1 (hS.up (by omega)))
          have c9 : n9 = 0 ∨ n9 = 1 ∨ n9 = 2 ∨ n9 = 3 ∨ n9 = 4 ∨ n9 = 5 ∨ n9 = 6 ∨ n9 = 7 ∨ n9 = 8 ∨ n9 = 9 ∨ n9 = 10 ∨ n9 = 11 ∨ n9 = 12 ∨ n9 = 13 ∨ n9 = 14 ∨ n9 = 15 ∨ n9 = 16 := by omega
          rcases c9 with rfl | rfl | rfl | rfl | rfl | rfl | rfl | rfl | rfl | rfl | rfl | rfl | rfl | rfl | rfl | rfl | rfl
          · refine r_tableIn (tgt := 124) (off := 84) C dL_law_40 (by decide) (by decide) rfl (by decide) ?_
            exact w_fol C hz hL (by omega) (by omega) (by omega) (by omega) hS kk
          · refine r_tableIn (tgt := 205) (off := 165) C dL_law_40 (by decide) (by decide) rfl (by decide) ?_
            exact w_tk C hz hL (by omega) (by omega) (by omega) (by omega) hS kk
          · refine r_tableIn (tgt := 394) (off := 354) C dL_law_40 (by decide) (by decide) rfl (by decide) ?_
            exact w_cr C hz hL (by omega) (by omega) (by omega) (by omega) hS kk
          · refine r_tableIn (tgt := 487) (off := 447) C dL_law_40 (by decide) (by decide) rfl (by decide) ?_
            exact w_vd C hz hL (by omega) (by omega) (by omega) (by omega) hS kk
          · refine r_tableIn (tgt := 524) (off := 484) C dL_law_40 (by decide) (by decide) rfl (by decide) ?_
            exact w_at C hz hL (by omega) (by omega) (by omega) (by omega) hS kk
          · refine r_tableIn (tgt := 562) (off := 522) C dL_law_40 (by decide) (by decide) rfl (by decide) ?_
            exact w_num C hz hL (by omega) (by omega) (by omega) (by omega) hS kk
          · refine r_tableIn (tgt := 587) (off := 547) C dL_law_40 (by decide) (by decide) rfl (by decide) ?_
            exact w_gap C hz hL (by omega) (by omega) (by omega) (by omega) hS kk
          · refine r_tableIn (tgt := 612) (off := 572) C dL_law_40 (by decide) (by decide) rfl (by decide) ?_
            exact w_rows C hz hL (by omega) (by omega) (by omega) (by omega) hS kk
          · refine r_tableIn (tgt := 625) (off := 585) C dL_law_40 (by decide) (by decide) rfl (by decide) ?_
            exact w_made C hz hL (by omega) (by omega) (by omega) (by omega) hS kk
          · refine r_tableIn (tgt := 638) (off := 598) C dL_law_40 (by decide) (by decide) rfl (by decide) ?_
            exact w_spl C hz hL (by omega) (by omega) (by omega) (by omega) hS kk
          · refine r_tableIn (tgt := 719) (off := 679) C dL_law_40 (by decide) (by decide) rfl (by decide) ?_
            exact w_shr C hz hL (by omega) (by omega) (by omega) (by omega) hS kk
          · refine r_tableIn (tgt := 757) (off := 717) C dL_law_40 (by decide) (by decide) rfl (by decide) ?_
            exact w_prt C hz hL (by omega) (by omega) (by omega) (by omega) hS kk
          · refine r_tableIn (tgt := 794) (off := 754) C dL_law_40 (by decide) (by decide) rfl (by decide) ?_
            exact w_pk C hz hL (by omega) (by omega) (by omega) (by omega) hS kk
          · refine r_tableIn (tgt := 843) (off := 803) C dL_law_40 (by decide) (by decide) rfl (by decide) ?_
            exact w_byt C hz hL (by omega) (by omega) (by omega) (by omega) hS hX hlt kk
          · refine r_tableIn (tgt := 911) (off := 871) C dL_law_40 (by decide) (by decide) rfl (by decide) ?_
            exact w_dig C hz hL (by omega) (by omega) (by omega) (by omega) hS kk
          · refine r_tableIn (tgt := 948) (off := 908) C dL_law_40 (by decide) (by decide) rfl (by decide) ?_
            exact w_chk C hz hL (by omega) (by omega) (by omega) (by omega) hS kk
          · refine r_tableIn (tgt := 973) (off := 933) C dL_law_40 (by decide) (by decide) rfl (by decide) ?_
            exact w_root C hz hL (by omega) (by omega) (by omega) (by omega) hS kk
      · refine r_icmp_gt_t (tgt := 1016) C dL_law_30 (by decide) (Int32.lt_of_lt_of_le (neg10 L (by omega)) ((nI_leI (a := 0) (b := 10 * c) (by omega) (by omega)).mpr (Nat.zero_le _))) ?_
        refine r_iconst (q := 1017) C (nI 1) dL_law_1016 (by decide) rfl ?_
        exact hend _ _ _ _ (by omega) (by omega)
  refine r_new (q := 3) C koX7 q27 q28 q1 100 [.null, .null, .null, .int 0, .int 0, .null, .null] (fun j hj => by rcases (show j = 0 ∨ j = 1 ∨ j = 2 ∨ j = 3 ∨ j = 4 ∨ j = 5 ∨ j = 6 by omega) with rfl | rfl | rfl | rfl | rfl | rfl | rfl <;> rfl) (by omega) (by omega) dL_law_0 rfl (fun a0 => ?_)
  refine r_dup (q := 4) C dL_law_3 rfl rfl ?_
  refine r_callI (q := 7) (As := []) (st := [.ref a0]) C (x_init (fn := fun _ => 0) (wn := fun _ => 0) (gp := fun _ => 0) (by9 := fun _ => 0) (rD := fun _ => 0) (tD := fun _ => 0) (tV := fun _ => 0) (tT := fun _ => 0) wd_eq) q31 q29 q30 q1 rfl ⟨by decide, by decide⟩ (show (parseMethodDescriptor yX7_init.desc).map (fun d => d.parameters.length) = some 0 by decide +kernel) (by decide) (by decide) (by omega) (by omega) (Nat.le_of_ble_eq_true rfl) rfl dL_law_4 rfl ?_
  rintro v9 w1 ⟨rfl, hT1, hf1⟩
  show V g k 7 w1 14 7097 Q 7 [(0, .ref b)] [.ref a0]
  refine r_astore_n (q := 8) (lv' := [(1, .ref a0), (0, .ref b)]) C dL_law_7 (by decide) rfl rfl ?_
  refine r_new (q := 11) C koX8 q685 q686 q9 0 [.null, .null, .null, .null, .null, .int 0, .null, .null, .int 0, .int 0, .null, .int 0, .null, .null, .int 0, .int 0, .null, .int 0, .null, .null, .null, .null, .null, .null, .int 0] (fun j hj => by rcases (show j = 0 ∨ j = 1 ∨ j = 2 ∨ j = 3 ∨ j = 4 ∨ j = 5 ∨ j = 6 ∨ j = 7 ∨ j = 8 ∨ j = 9 ∨ j = 10 ∨ j = 11 ∨ j = 12 ∨ j = 13 ∨ j = 14 ∨ j = 15 ∨ j = 16 ∨ j = 17 ∨ j = 18 ∨ j = 19 ∨ j = 20 ∨ j = 21 ∨ j = 22 ∨ j = 23 ∨ j = 24 by omega) with rfl | rfl | rfl | rfl | rfl | rfl | rfl | rfl | rfl | rfl | rfl | rfl | rfl | rfl | rfl | rfl | rfl | rfl | rfl | rfl | rfl | rfl | rfl | rfl | rfl <;> rfl) (by omega) (by omega) dL_law_8 rfl (fun m0 => ?_)
  refine r_dup (q := 12) C dL_law_11 rfl rfl ?_
  refine r_callI (q := 15) (As := []) (st := [.ref m0]) C (y_init wd_eq) q689 q687 q688 q9 rfl ⟨by decide, by decide⟩ (show (parseMethodDescriptor yX8_init.desc).map (fun d => d.parameters.length) = some 0 by decide +kernel) (by decide) (by decide) (by omega) (by omega) (Nat.le_of_ble_eq_true rfl) rfl dL_law_12 rfl ?_
  rintro v9 w2 ⟨rfl, hM2, hf2⟩
  show V g k 7 w2 32 35918 Q 15 [(1, .ref a0), (0, .ref b)] [.ref m0]
  refine r_astore_n (q := 16) (lv' := [(2, .ref m0), (1, .ref a0), (0, .ref b)]) C dL_law_15 (by decide) rfl rfl ?_
  refine r_iconst (q := 17) C (nI 1) dL_law_16 (by decide) rfl ?_
  refine r_newl (q := 19) C 1 rfl (by decide) q302 50 (by omega) (by omega) dL_law_17 rfl (fun ao => ?_)
  refine r_astore_n (q := 20) (lv' := [(3, .ref ao), (2, .ref m0), (1, .ref a0), (0, .ref b)]) C dL_law_19 (by decide) rfl rfl ?_
  refine r_iconst (q := 21) C (nI 0) dL_law_20 (by decide) rfl ?_
  refine r_istore (q := 23) (lv' := [(4, .int (nI 0)), (3, .ref ao), (2, .ref m0), (1, .ref a0), (0, .ref b)]) C dL_law_21 (by decide) rfl rfl ?_
  refine r_sub (lv' := [(0, .ref b), (1, .ref a0), (2, .ref m0), (3, .ref ao), (4, .int (nI 0))]) [4, 3, 2, 1, 0] rfl ?_
  have hI : Iv9 0 0 0 0 0 (fun _ => 0) (fun _ => 0) (fun _ => 0) (fun _ => 0) (fun _ => 0) (fun _ => 0) := ⟨by decide, by decide, by decide, by decide, fun k hk => absurd hk (Nat.not_lt_zero k), fun k hk => absurd hk (Nat.not_lt_zero k), fun _ => Nat.zero_le _, fun _ _ => rfl, sb_fit0, fun j hj => absurd hj (Nat.not_lt_zero j), fun i _ hi => absurd hi (Nat.not_lt_zero i)⟩
  have hS0 : St9 g (wd_set w2 50 ao (aL g 1 (fun _ => 0))) 0 a0 m0 ao := ⟨nI 0, 0, 0, 0, 0, (fun _ => 0), (fun _ => 0), (fun _ => 0), (fun _ => 0), (fun _ => 0), (fun _ => 0), (fun _ => 0), (fun _ => 0), hT1.kept hI (fun t ht => (wd_ne (by omega)).trans ((hf2 t (by omega)).trans (wd_ne (by omega)))), hM2.kept (fun t ht => wd_ne (by omega)), hI, fun _ _ => rfl, _, wd_eq⟩
  exact r_widen (Nat.le_of_ble_eq_true rfl) (Nat.le_of_ble_eq_true rfl) (loop 48 0 _ a0 m0 ao rfl hS0)
