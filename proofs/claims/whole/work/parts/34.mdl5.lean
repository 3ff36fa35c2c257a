/-! the reference: tareOf -/
def oi9 : Option Nat → Int32
  | none => -1
  | some k9 => nI k9
set_option maxHeartbeats 4000000 in
set_option maxRecDepth 20000 in
theorem m_tar_y {l : Launch} {g : cx_G} {w : wd_T} {m0 : Nat} {ad : Nat → Nat} {tk nu gC rC fl rS fS : Int32} {tD tV tT : Nat → Int32} {tN : Nat} {vh dy : Int32} {k9 : Nat} (h0 : w 0 = some (m0, mo ad (nI tN) tk nu gC rC fl rS fS)) (h3 : w 3 = some (ad 3, aI g 1100 tD)) (h4 : w 4 = some (ad 4, aI g 1100 tV)) (h5 : w 5 = some (ad 5, aI g 1100 tT)) (hn : tN ≤ 300) (h9 : lu9 tD tV dy vh tN = some k9) : Mt l g yX8_tareOf cX8_tareOf 6 (some .long) 0 0 0 w [.ref m0, .int vh, .int dy] (fun v w' => v = some (.long ((tT k9).toInt64)) ∧ w = w') := by
  refine mt_of RX8 "tareOf" rfl rfl (by decide) (Nat.le_of_ble_eq_true rfl) [(0, .ref m0), (1, .int vh), (2, .int dy)] rfl ?_
  intro k hkl C hin
  subst hkl
  refine r_iconst (q := 1) C ((-1)) dX8_tareOf_0 (by decide) rfl ?_
  refine r_istore_n (q := 2) (lv' := [(3, .int (-1)), (0, .ref m0), (1, .int vh), (2, .int dy)]) C dX8_tareOf_1 (by decide) rfl rfl ?_
  refine r_iconst (q := 3) C (nI 0) dX8_tareOf_2 (by decide) rfl ?_
  refine r_istore (q := 5) (lv' := [(4, .int (nI 0)), (3, .int (-1)), (0, .ref m0), (1, .int vh), (2, .int dy)]) C dX8_tareOf_3 (by decide) rfl rfl ?_
  refine r_sub (lv' := [(4, .int (nI 0)), (3, .int (-1)), (0, .ref m0), (1, .int vh), (2, .int dy)]) [0, 1, 2, 3, 4] rfl ?_
  have loop : ∀ (r i : Nat) (o9 : Option Nat) , i + r = tN → (o9 = lu9 tD tV dy vh i) → V g k 6 w 0 0 (kQ g k (fun v w' => v = some (.long ((tT k9).toInt64)) ∧ w = w') 0 0) 5 [(4, .int (nI i)), (3, .int (oi9 o9)), (0, .ref m0), (1, .int vh), (2, .int dy)] [] := by
    intro r
    induction r with
    | zero =>
      intro i o9  hi ho
      cases o9 with
      | none =>
        show V g k 6 w 0 0 (kQ g k (fun v w' => v = some (.long ((tT k9).toInt64)) ∧ w = w') 0 0) 5 [(4, .int (nI i)), (3, .int (-1)), (0, .ref m0), (1, .int vh), (2, .int dy)] []
        refine r_iload (q := 7) C 0 dX8_tareOf_5 rfl rfl ?_
        refine r_aload_n (q := 8) C 2 dX8_tareOf_7 rfl rfl ?_
        refine r_get (q := 11) (t := 0) C koX8 h0 5 (by decide) q705 rfl rfl dX8_tareOf_8 rfl ?_
        refine r_icmp_ge_t (tgt := 81) C dX8_tareOf_11 (by decide) ((nI_leI (a := tN) (b := i) (by omega) (by omega)).mpr (by omega)) ?_
        refine r_iload_n (q := 82) C 1 dX8_tareOf_81 rfl rfl ?_
        obtain rfl : i = tN := by omega
        rw [h9] at ho
        cases ho
      | some k7 =>
        show V g k 6 w 0 0 (kQ g k (fun v w' => v = some (.long ((tT k9).toInt64)) ∧ w = w') 0 0) 5 [(4, .int (nI i)), (3, .int (nI k7)), (0, .ref m0), (1, .int vh), (2, .int dy)] []
        have hk := lu9_lt i k7 ho.symm
        refine r_iload (q := 7) C 0 dX8_tareOf_5 rfl rfl ?_
        refine r_aload_n (q := 8) C 2 dX8_tareOf_7 rfl rfl ?_
        refine r_get (q := 11) (t := 0) C koX8 h0 5 (by decide) q705 rfl rfl dX8_tareOf_8 rfl ?_
        refine r_icmp_ge_t (tgt := 81) C dX8_tareOf_11 (by decide) ((nI_leI (a := tN) (b := i) (by omega) (by omega)).mpr (by omega)) ?_
        refine r_iload_n (q := 82) C 1 dX8_tareOf_81 rfl rfl ?_
        obtain rfl : i = tN := by omega
        rw [h9] at ho
        cases ho
        refine r_if_ge_t (tgt := 91) C dX8_tareOf_82 (by decide) (nI_pos' (by omega)) ?_
        refine r_aload_n (q := 92) C 2 dX8_tareOf_91 rfl rfl ?_
        refine r_get (q := 95) (t := 0) C koX8 h0 4 (by decide) q704 rfl rfl dX8_tareOf_92 rfl ?_
        refine r_iload_n (q := 96) C 1 dX8_tareOf_95 rfl rfl ?_
        refine r_iald (q := 97) (t := 5) C h5 k9 rfl (by omega) (by decide) dX8_tareOf_96 rfl ?_
        refine r_i2l (q := 98) C dX8_tareOf_97 rfl ?_
        exact r_lret C rfl (by decide) (by decide) dX8_tareOf_98 ⟨rfl, rfl⟩
    | succ r ih =>
      intro i o9  hi ho
      cases o9 with
      | none =>
        show V g k 6 w 0 0 (kQ g k (fun v w' => v = some (.long ((tT k9).toInt64)) ∧ w = w') 0 0) 5 [(4, .int (nI i)), (3, .int (-1)), (0, .ref m0), (1, .int vh), (2, .int dy)] []
        refine r_iload (q := 7) C 0 dX8_tareOf_5 rfl rfl ?_
        refine r_aload_n (q := 8) C 2 dX8_tareOf_7 rfl rfl ?_
        refine r_get (q := 11) (t := 0) C koX8 h0 5 (by decide) q705 rfl rfl dX8_tareOf_8 rfl ?_
        refine r_icmp_ge_f (q := 14) (tgt := 81) C dX8_tareOf_11 (by decide) rfl (fun z => absurd ((nI_leI (a := tN) (b := i) (by omega) (by omega)).mp z) (by omega)) ?_
        refine r_aload_n (q := 15) C 2 dX8_tareOf_14 rfl rfl ?_
        refine r_get (q := 18) (t := 0) C koX8 h0 3 (by decide) q703 rfl rfl dX8_tareOf_15 rfl ?_
        refine r_iload (q := 20) C 0 dX8_tareOf_18 rfl rfl ?_
        refine r_iald (q := 21) (t := 4) C h4 i rfl (by omega) (by decide) dX8_tareOf_20 rfl ?_
        refine r_iload_n (q := 22) C 3 dX8_tareOf_21 rfl rfl ?_
        refine r_icmp_ne (q := 25) (tgt := 40) C dX8_tareOf_22 (by decide) rfl (fun hc2 => ?_) (fun hc2 => ?_)
        · refine r_iconst (q := 41) C (nI 0) dX8_tareOf_40 (by decide) rfl ?_
          refine r_istore (q := 43) (lv' := [(5, .int (nI 0)), (4, .int (nI i)), (3, .int (-1)), (0, .ref m0), (1, .int vh), (2, .int dy)]) C dX8_tareOf_41 (by decide) rfl rfl ?_
          refine r_iload (q := 45) C 0 dX8_tareOf_43 rfl rfl ?_
          refine r_if_eq_t (tgt := 73) C dX8_tareOf_45 (by decide) (by decide) ?_
          refine r_iload_n (q := 74) C 2 dX8_tareOf_73 rfl rfl ?_
          refine r_istore_n (q := 75) (lv' := [(3, .int (-1)), (5, .int (nI 0)), (4, .int (nI i)), (0, .ref m0), (1, .int vh), (2, .int dy)]) C dX8_tareOf_74 (by decide) rfl rfl ?_
          refine r_iinc (q := 78) (v := nI (i + 1)) (lv' := [(4, .int (nI (i + 1))), (3, .int (-1)), (5, .int (nI 0)), (0, .ref m0), (1, .int vh), (2, .int dy)]) C 2 dX8_tareOf_75 rfl (nI_1 i) (by decide) rfl rfl ?_
          refine r_goto (tgt := 5) C dX8_tareOf_78 (by decide) ?_
          refine r_sub (lv' := [(4, .int (nI (i + 1))), (3, .int (-1)), (0, .ref m0), (1, .int vh), (2, .int dy)]) [0, 1, 3, 4, 5] rfl ?_
          exact ih (i + 1) (none) (by omega) (by rw [lu9, if_neg (fun z => absurd z.1 hc2)]; exact ho)
        · refine r_aload_n (q := 26) C 2 dX8_tareOf_25 rfl rfl ?_
          refine r_get (q := 29) (t := 0) C koX8 h0 2 (by decide) q702 rfl rfl dX8_tareOf_26 rfl ?_
          refine r_iload (q := 31) C 0 dX8_tareOf_29 rfl rfl ?_
          refine r_iald (q := 32) (t := 3) C h3 i rfl (by omega) (by decide) dX8_tareOf_31 rfl ?_
          refine r_iload_n (q := 33) C 4 dX8_tareOf_32 rfl rfl ?_
          refine r_icmp_gt (q := 36) (tgt := 40) C dX8_tareOf_33 (by decide) rfl (fun hc5 => ?_) (fun hc5 => ?_)
          · refine r_iconst (q := 41) C (nI 0) dX8_tareOf_40 (by decide) rfl ?_
            refine r_istore (q := 43) (lv' := [(5, .int (nI 0)), (4, .int (nI i)), (3, .int (-1)), (0, .ref m0), (1, .int vh), (2, .int dy)]) C dX8_tareOf_41 (by decide) rfl rfl ?_
            refine r_iload (q := 45) C 0 dX8_tareOf_43 rfl rfl ?_
            refine r_if_eq_t (tgt := 73) C dX8_tareOf_45 (by decide) (by decide) ?_
            refine r_iload_n (q := 74) C 2 dX8_tareOf_73 rfl rfl ?_
            refine r_istore_n (q := 75) (lv' := [(3, .int (-1)), (5, .int (nI 0)), (4, .int (nI i)), (0, .ref m0), (1, .int vh), (2, .int dy)]) C dX8_tareOf_74 (by decide) rfl rfl ?_
            refine r_iinc (q := 78) (v := nI (i + 1)) (lv' := [(4, .int (nI (i + 1))), (3, .int (-1)), (5, .int (nI 0)), (0, .ref m0), (1, .int vh), (2, .int dy)]) C 2 dX8_tareOf_75 rfl (nI_1 i) (by decide) rfl rfl ?_
            refine r_goto (tgt := 5) C dX8_tareOf_78 (by decide) ?_
            refine r_sub (lv' := [(4, .int (nI (i + 1))), (3, .int (-1)), (0, .ref m0), (1, .int vh), (2, .int dy)]) [0, 1, 3, 4, 5] rfl ?_
            exact ih (i + 1) (none) (by omega) (by rw [lu9, if_neg (fun z => absurd z.2.1 (Int32.not_le.mpr hc5))]; exact ho)
          · refine r_iconst (q := 37) C (nI 1) dX8_tareOf_36 (by decide) rfl ?_
            refine r_goto (tgt := 41) C dX8_tareOf_37 (by decide) ?_
            refine r_istore (q := 43) (lv' := [(5, .int (nI 1)), (4, .int (nI i)), (3, .int (-1)), (0, .ref m0), (1, .int vh), (2, .int dy)]) C dX8_tareOf_41 (by decide) rfl rfl ?_
            refine r_iload (q := 45) C 0 dX8_tareOf_43 rfl rfl ?_
            refine r_if_eq_f (q := 48) (tgt := 73) C dX8_tareOf_45 (by decide) rfl (by decide) ?_
            refine r_iload_n (q := 49) C 2 dX8_tareOf_48 rfl rfl ?_
            refine r_if_lt_t (tgt := 68) C dX8_tareOf_49 (by decide) (by decide) ?_
            refine r_iload (q := 70) C 1 dX8_tareOf_68 rfl rfl ?_
            refine r_goto (tgt := 74) C dX8_tareOf_70 (by decide) ?_
            refine r_istore_n (q := 75) (lv' := [(3, .int (nI i)), (5, .int (nI 1)), (4, .int (nI i)), (0, .ref m0), (1, .int vh), (2, .int dy)]) C dX8_tareOf_74 (by decide) rfl rfl ?_
            refine r_iinc (q := 78) (v := nI (i + 1)) (lv' := [(4, .int (nI (i + 1))), (3, .int (nI i)), (5, .int (nI 1)), (0, .ref m0), (1, .int vh), (2, .int dy)]) C 2 dX8_tareOf_75 rfl (nI_1 i) (by decide) rfl rfl ?_
            refine r_goto (tgt := 5) C dX8_tareOf_78 (by decide) ?_
            refine r_sub (lv' := [(4, .int (nI (i + 1))), (3, .int (nI i)), (0, .ref m0), (1, .int vh), (2, .int dy)]) [0, 1, 3, 4, 5] rfl ?_
            exact ih (i + 1) (some i) (by omega) (by rw [lu9, if_pos ⟨hc2, Int32.not_lt.mp hc5, by rw [← ho]; rfl⟩])
      | some k7 =>
        show V g k 6 w 0 0 (kQ g k (fun v w' => v = some (.long ((tT k9).toInt64)) ∧ w = w') 0 0) 5 [(4, .int (nI i)), (3, .int (nI k7)), (0, .ref m0), (1, .int vh), (2, .int dy)] []
        have hk := lu9_lt i k7 ho.symm
        refine r_iload (q := 7) C 0 dX8_tareOf_5 rfl rfl ?_
        refine r_aload_n (q := 8) C 2 dX8_tareOf_7 rfl rfl ?_
        refine r_get (q := 11) (t := 0) C koX8 h0 5 (by decide) q705 rfl rfl dX8_tareOf_8 rfl ?_
        refine r_icmp_ge_f (q := 14) (tgt := 81) C dX8_tareOf_11 (by decide) rfl (fun z => absurd ((nI_leI (a := tN) (b := i) (by omega) (by omega)).mp z) (by omega)) ?_
        refine r_aload_n (q := 15) C 2 dX8_tareOf_14 rfl rfl ?_
        refine r_get (q := 18) (t := 0) C koX8 h0 3 (by decide) q703 rfl rfl dX8_tareOf_15 rfl ?_
        refine r_iload (q := 20) C 0 dX8_tareOf_18 rfl rfl ?_
        refine r_iald (q := 21) (t := 4) C h4 i rfl (by omega) (by decide) dX8_tareOf_20 rfl ?_
        refine r_iload_n (q := 22) C 3 dX8_tareOf_21 rfl rfl ?_
        refine r_icmp_ne (q := 25) (tgt := 40) C dX8_tareOf_22 (by decide) rfl (fun hc8 => ?_) (fun hc8 => ?_)
        · refine r_iconst (q := 41) C (nI 0) dX8_tareOf_40 (by decide) rfl ?_
          refine r_istore (q := 43) (lv' := [(5, .int (nI 0)), (4, .int (nI i)), (3, .int (nI k7)), (0, .ref m0), (1, .int vh), (2, .int dy)]) C dX8_tareOf_41 (by decide) rfl rfl ?_
          refine r_iload (q := 45) C 0 dX8_tareOf_43 rfl rfl ?_
          refine r_if_eq_t (tgt := 73) C dX8_tareOf_45 (by decide) (by decide) ?_
          refine r_iload_n (q := 74) C 2 dX8_tareOf_73 rfl rfl ?_
          refine r_istore_n (q := 75) (lv' := [(3, .int (nI k7)), (5, .int (nI 0)), (4, .int (nI i)), (0, .ref m0), (1, .int vh), (2, .int dy)]) C dX8_tareOf_74 (by decide) rfl rfl ?_
          refine r_iinc (q := 78) (v := nI (i + 1)) (lv' := [(4, .int (nI (i + 1))), (3, .int (nI k7)), (5, .int (nI 0)), (0, .ref m0), (1, .int vh), (2, .int dy)]) C 2 dX8_tareOf_75 rfl (nI_1 i) (by decide) rfl rfl ?_
          refine r_goto (tgt := 5) C dX8_tareOf_78 (by decide) ?_
          refine r_sub (lv' := [(4, .int (nI (i + 1))), (3, .int (nI k7)), (0, .ref m0), (1, .int vh), (2, .int dy)]) [0, 1, 3, 4, 5] rfl ?_
          exact ih (i + 1) (some k7) (by omega) (by rw [lu9, if_neg (fun z => absurd z.1 hc8)]; exact ho)
        · refine r_aload_n (q := 26) C 2 dX8_tareOf_25 rfl rfl ?_
          refine r_get (q := 29) (t := 0) C koX8 h0 2 (by decide) q702 rfl rfl dX8_tareOf_26 rfl ?_
          refine r_iload (q := 31) C 0 dX8_tareOf_29 rfl rfl ?_
          refine r_iald (q := 32) (t := 3) C h3 i rfl (by omega) (by decide) dX8_tareOf_31 rfl ?_
          refine r_iload_n (q := 33) C 4 dX8_tareOf_32 rfl rfl ?_
          refine r_icmp_gt (q := 36) (tgt := 40) C dX8_tareOf_33 (by decide) rfl (fun hc11 => ?_) (fun hc11 => ?_)
          · refine r_iconst (q := 41) C (nI 0) dX8_tareOf_40 (by decide) rfl ?_
            refine r_istore (q := 43) (lv' := [(5, .int (nI 0)), (4, .int (nI i)), (3, .int (nI k7)), (0, .ref m0), (1, .int vh), (2, .int dy)]) C dX8_tareOf_41 (by decide) rfl rfl ?_
            refine r_iload (q := 45) C 0 dX8_tareOf_43 rfl rfl ?_
            refine r_if_eq_t (tgt := 73) C dX8_tareOf_45 (by decide) (by decide) ?_
            refine r_iload_n (q := 74) C 2 dX8_tareOf_73 rfl rfl ?_
            refine r_istore_n (q := 75) (lv' := [(3, .int (nI k7)), (5, .int (nI 0)), (4, .int (nI i)), (0, .ref m0), (1, .int vh), (2, .int dy)]) C dX8_tareOf_74 (by decide) rfl rfl ?_
            refine r_iinc (q := 78) (v := nI (i + 1)) (lv' := [(4, .int (nI (i + 1))), (3, .int (nI k7)), (5, .int (nI 0)), (0, .ref m0), (1, .int vh), (2, .int dy)]) C 2 dX8_tareOf_75 rfl (nI_1 i) (by decide) rfl rfl ?_
            refine r_goto (tgt := 5) C dX8_tareOf_78 (by decide) ?_
            refine r_sub (lv' := [(4, .int (nI (i + 1))), (3, .int (nI k7)), (0, .ref m0), (1, .int vh), (2, .int dy)]) [0, 1, 3, 4, 5] rfl ?_
            exact ih (i + 1) (some k7) (by omega) (by rw [lu9, if_neg (fun z => absurd z.2.1 (Int32.not_le.mpr hc11))]; exact ho)
          · refine r_iconst (q := 37) C (nI 1) dX8_tareOf_36 (by decide) rfl ?_
            refine r_goto (tgt := 41) C dX8_tareOf_37 (by decide) ?_
            refine r_istore (q := 43) (lv' := [(5, .int (nI 1)), (4, .int (nI i)), (3, .int (nI k7)), (0, .ref m0), (1, .int vh), (2, .int dy)]) C dX8_tareOf_41 (by decide) rfl rfl ?_
            refine r_iload (q := 45) C 0 dX8_tareOf_43 rfl rfl ?_
            refine r_if_eq_f (q := 48) (tgt := 73) C dX8_tareOf_45 (by decide) rfl (by decide) ?_
            refine r_iload_n (q := 49) C 2 dX8_tareOf_48 rfl rfl ?_
            refine r_if_lt_f (q := 52) (tgt := 68) C dX8_tareOf_49 (by decide) rfl (nI_pos (by omega)) ?_
            refine r_aload_n (q := 53) C 3 dX8_tareOf_52 rfl rfl ?_
            refine r_get (q := 56) (t := 0) C koX8 h0 2 (by decide) q702 rfl rfl dX8_tareOf_53 rfl ?_
            refine r_iload (q := 58) C 1 dX8_tareOf_56 rfl rfl ?_
            refine r_iald (q := 59) (t := 3) C h3 i rfl (by omega) (by decide) dX8_tareOf_58 rfl ?_
            refine r_aload_n (q := 60) C 3 dX8_tareOf_59 rfl rfl ?_
            refine r_get (q := 63) (t := 0) C koX8 h0 2 (by decide) q702 rfl rfl dX8_tareOf_60 rfl ?_
            refine r_iload_n (q := 64) C 2 dX8_tareOf_63 rfl rfl ?_
            refine r_iald (q := 65) (t := 3) C h3 k7 rfl (by omega) (by decide) dX8_tareOf_64 rfl ?_
            refine r_icmp_le (q := 68) (tgt := 73) C dX8_tareOf_65 (by decide) rfl (fun hc14 => ?_) (fun hc14 => ?_)
            · refine r_iload_n (q := 74) C 2 dX8_tareOf_73 rfl rfl ?_
              refine r_istore_n (q := 75) (lv' := [(3, .int (nI k7)), (5, .int (nI 1)), (4, .int (nI i)), (0, .ref m0), (1, .int vh), (2, .int dy)]) C dX8_tareOf_74 (by decide) rfl rfl ?_
              refine r_iinc (q := 78) (v := nI (i + 1)) (lv' := [(4, .int (nI (i + 1))), (3, .int (nI k7)), (5, .int (nI 1)), (0, .ref m0), (1, .int vh), (2, .int dy)]) C 2 dX8_tareOf_75 rfl (nI_1 i) (by decide) rfl rfl ?_
              refine r_goto (tgt := 5) C dX8_tareOf_78 (by decide) ?_
              refine r_sub (lv' := [(4, .int (nI (i + 1))), (3, .int (nI k7)), (0, .ref m0), (1, .int vh), (2, .int dy)]) [0, 1, 3, 4, 5] rfl ?_
              exact ih (i + 1) (some k7) (by omega) (by rw [lu9, if_neg (fun z => by have q := z.2.2; rw [← ho] at q; exact absurd (of_decide_eq_true q) (Int32.not_lt.mpr hc14))]; exact ho)
            · refine r_iload (q := 70) C 1 dX8_tareOf_68 rfl rfl ?_
              refine r_goto (tgt := 74) C dX8_tareOf_70 (by decide) ?_
              refine r_istore_n (q := 75) (lv' := [(3, .int (nI i)), (5, .int (nI 1)), (4, .int (nI i)), (0, .ref m0), (1, .int vh), (2, .int dy)]) C dX8_tareOf_74 (by decide) rfl rfl ?_
              refine r_iinc (q := 78) (v := nI (i + 1)) (lv' := [(4, .int (nI (i + 1))), (3, .int (nI i)), (5, .int (nI 1)), (0, .ref m0), (1, .int vh), (2, .int dy)]) C 2 dX8_tareOf_75 rfl (nI_1 i) (by decide) rfl rfl ?_
              refine r_goto (tgt := 5) C dX8_tareOf_78 (by decide) ?_
              refine r_sub (lv' := [(4, .int (nI (i + 1))), (3, .int (nI i)), (0, .ref m0), (1, .int vh), (2, .int dy)]) [0, 1, 3, 4, 5] rfl ?_
              exact ih (i + 1) (some i) (by omega) (by rw [lu9, if_pos ⟨hc8, Int32.not_lt.mp hc11, by rw [← ho]; exact decide_eq_true (Int32.not_le.mp hc14)⟩])
  exact loop tN 0 none (by omega) rfl

set_option maxHeartbeats 4000000 in
set_option maxRecDepth 20000 in
theorem m_tar_n {l : Launch} {g : cx_G} {w : wd_T} {m0 : Nat} {ad : Nat → Nat} {tk nu gC rC fl rS fS : Int32} {tD tV tT : Nat → Int32} {tN : Nat} {vh dy : Int32} (h0 : w 0 = some (m0, mo ad (nI tN) tk nu gC rC fl rS fS)) (h3 : w 3 = some (ad 3, aI g 1100 tD)) (h4 : w 4 = some (ad 4, aI g 1100 tV)) (h5 : w 5 = some (ad 5, aI g 1100 tT)) (hn : tN ≤ 300) (h9 : lu9 tD tV dy vh tN = none) : Mt l g yX8_tareOf cX8_tareOf 6 (some .long) 0 0 0 w [.ref m0, .int vh, .int dy] (fun v w' => v = some (.long (-1)) ∧ w = w') := by
  refine mt_of RX8 "tareOf" rfl rfl (by decide) (Nat.le_of_ble_eq_true rfl) [(0, .ref m0), (1, .int vh), (2, .int dy)] rfl ?_
  intro k hkl C hin
  subst hkl
  refine r_iconst (q := 1) C ((-1)) dX8_tareOf_0 (by decide) rfl ?_
  refine r_istore_n (q := 2) (lv' := [(3, .int (-1)), (0, .ref m0), (1, .int vh), (2, .int dy)]) C dX8_tareOf_1 (by decide) rfl rfl ?_
  refine r_iconst (q := 3) C (nI 0) dX8_tareOf_2 (by decide) rfl ?_
  refine r_istore (q := 5) (lv' := [(4, .int (nI 0)), (3, .int (-1)), (0, .ref m0), (1, .int vh), (2, .int dy)]) C dX8_tareOf_3 (by decide) rfl rfl ?_
  refine r_sub (lv' := [(4, .int (nI 0)), (3, .int (-1)), (0, .ref m0), (1, .int vh), (2, .int dy)]) [0, 1, 2, 3, 4] rfl ?_
  have loop : ∀ (r i : Nat) (o9 : Option Nat) , i + r = tN → (o9 = lu9 tD tV dy vh i) → V g k 6 w 0 0 (kQ g k (fun v w' => v = some (.long (-1)) ∧ w = w') 0 0) 5 [(4, .int (nI i)), (3, .int (oi9 o9)), (0, .ref m0), (1, .int vh), (2, .int dy)] [] := by
    intro r
    induction r with
    | zero =>
      intro i o9  hi ho
      cases o9 with
      | none =>
        show V g k 6 w 0 0 (kQ g k (fun v w' => v = some (.long (-1)) ∧ w = w') 0 0) 5 [(4, .int (nI i)), (3, .int (-1)), (0, .ref m0), (1, .int vh), (2, .int dy)] []
        refine r_iload (q := 7) C 0 dX8_tareOf_5 rfl rfl ?_
        refine r_aload_n (q := 8) C 2 dX8_tareOf_7 rfl rfl ?_
        refine r_get (q := 11) (t := 0) C koX8 h0 5 (by decide) q705 rfl rfl dX8_tareOf_8 rfl ?_
        refine r_icmp_ge_t (tgt := 81) C dX8_tareOf_11 (by decide) ((nI_leI (a := tN) (b := i) (by omega) (by omega)).mpr (by omega)) ?_
        refine r_iload_n (q := 82) C 1 dX8_tareOf_81 rfl rfl ?_
        obtain rfl : i = tN := by omega
        rw [h9] at ho
        refine r_if_ge_f (q := 85) (tgt := 91) C dX8_tareOf_82 (by decide) rfl (by decide) ?_
        refine r_ldc2 (q := 88) (v := (-1)) C dX8_tareOf_85 q800 rfl ?_
        refine r_goto (tgt := 98) C dX8_tareOf_88 (by decide) ?_
        exact r_lret C rfl (by decide) (by decide) dX8_tareOf_98 ⟨rfl, rfl⟩
      | some k7 =>
        show V g k 6 w 0 0 (kQ g k (fun v w' => v = some (.long (-1)) ∧ w = w') 0 0) 5 [(4, .int (nI i)), (3, .int (nI k7)), (0, .ref m0), (1, .int vh), (2, .int dy)] []
        have hk := lu9_lt i k7 ho.symm
        refine r_iload (q := 7) C 0 dX8_tareOf_5 rfl rfl ?_
        refine r_aload_n (q := 8) C 2 dX8_tareOf_7 rfl rfl ?_
        refine r_get (q := 11) (t := 0) C koX8 h0 5 (by decide) q705 rfl rfl dX8_tareOf_8 rfl ?_
        refine r_icmp_ge_t (tgt := 81) C dX8_tareOf_11 (by decide) ((nI_leI (a := tN) (b := i) (by omega) (by omega)).mpr (by omega)) ?_
        refine r_iload_n (q := 82) C 1 dX8_tareOf_81 rfl rfl ?_
        obtain rfl : i = tN := by omega
        rw [h9] at ho
        cases ho
    | succ r ih =>
      intro i o9  hi ho
      cases o9 with
      | none =>
        show V g k 6 w 0 0 (kQ g k (fun v w' => v = some (.long (-1)) ∧ w = w') 0 0) 5 [(4, .int (nI i)), (3, .int (-1)), (0, .ref m0), (1, .int vh), (2, .int dy)] []
        refine r_iload (q := 7) C 0 dX8_tareOf_5 rfl rfl ?_
        refine r_aload_n (q := 8) C 2 dX8_tareOf_7 rfl rfl ?_
        refine r_get (q := 11) (t := 0) C koX8 h0 5 (by decide) q705 rfl rfl dX8_tareOf_8 rfl ?_
        refine r_icmp_ge_f (q := 14) (tgt := 81) C dX8_tareOf_11 (by decide) rfl (fun z => absurd ((nI_leI (a := tN) (b := i) (by omega) (by omega)).mp z) (by omega)) ?_
        refine r_aload_n (q := 15) C 2 dX8_tareOf_14 rfl rfl ?_
        refine r_get (q := 18) (t := 0) C koX8 h0 3 (by decide) q703 rfl rfl dX8_tareOf_15 rfl ?_
        refine r_iload (q := 20) C 0 dX8_tareOf_18 rfl rfl ?_
        refine r_iald (q := 21) (t := 4) C h4 i rfl (by omega) (by decide) dX8_tareOf_20 rfl ?_
        refine r_iload_n (q := 22) C 3 dX8_tareOf_21 rfl rfl ?_
        refine r_icmp_ne (q := 25) (tgt := 40) C dX8_tareOf_22 (by decide) rfl (fun hc2 => ?_) (fun hc2 => ?_)
        · refine r_iconst (q := 41) C (nI 0) dX8_tareOf_40 (by decide) rfl ?_
          refine r_istore (q := 43) (lv' := [(5, .int (nI 0)), (4, .int (nI i)), (3, .int (-1)), (0, .ref m0), (1, .int vh), (2, .int dy)]) C dX8_tareOf_41 (by decide) rfl rfl ?_
          refine r_iload (q := 45) C 0 dX8_tareOf_43 rfl rfl ?_
          refine r_if_eq_t (tgt := 73) C dX8_tareOf_45 (by decide) (by decide) ?_
          refine r_iload_n (q := 74) C 2 dX8_tareOf_73 rfl rfl ?_
          refine r_istore_n (q := 75) (lv' := [(3, .int (-1)), (5, .int (nI 0)), (4, .int (nI i)), (0, .ref m0), (1, .int vh), (2, .int dy)]) C dX8_tareOf_74 (by decide) rfl rfl ?_
          refine r_iinc (q := 78) (v := nI (i + 1)) (lv' := [(4, .int (nI (i + 1))), (3, .int (-1)), (5, .int (nI 0)), (0, .ref m0), (1, .int vh), (2, .int dy)]) C 2 dX8_tareOf_75 rfl (nI_1 i) (by decide) rfl rfl ?_
          refine r_goto (tgt := 5) C dX8_tareOf_78 (by decide) ?_
          refine r_sub (lv' := [(4, .int (nI (i + 1))), (3, .int (-1)), (0, .ref m0), (1, .int vh), (2, .int dy)]) [0, 1, 3, 4, 5] rfl ?_
          exact ih (i + 1) (none) (by omega) (by rw [lu9, if_neg (fun z => absurd z.1 hc2)]; exact ho)
        · refine r_aload_n (q := 26) C 2 dX8_tareOf_25 rfl rfl ?_
          refine r_get (q := 29) (t := 0) C koX8 h0 2 (by decide) q702 rfl rfl dX8_tareOf_26 rfl ?_
          refine r_iload (q := 31) C 0 dX8_tareOf_29 rfl rfl ?_
          refine r_iald (q := 32) (t := 3) C h3 i rfl (by omega) (by decide) dX8_tareOf_31 rfl ?_
          refine r_iload_n (q := 33) C 4 dX8_tareOf_32 rfl rfl ?_
          refine r_icmp_gt (q := 36) (tgt := 40) C dX8_tareOf_33 (by decide) rfl (fun hc5 => ?_) (fun hc5 => ?_)
          · refine r_iconst (q := 41) C (nI 0) dX8_tareOf_40 (by decide) rfl ?_
            refine r_istore (q := 43) (lv' := [(5, .int (nI 0)), (4, .int (nI i)), (3, .int (-1)), (0, .ref m0), (1, .int vh), (2, .int dy)]) C dX8_tareOf_41 (by decide) rfl rfl ?_
            refine r_iload (q := 45) C 0 dX8_tareOf_43 rfl rfl ?_
            refine r_if_eq_t (tgt := 73) C dX8_tareOf_45 (by decide) (by decide) ?_
            refine r_iload_n (q := 74) C 2 dX8_tareOf_73 rfl rfl ?_
            refine r_istore_n (q := 75) (lv' := [(3, .int (-1)), (5, .int (nI 0)), (4, .int (nI i)), (0, .ref m0), (1, .int vh), (2, .int dy)]) C dX8_tareOf_74 (by decide) rfl rfl ?_
            refine r_iinc (q := 78) (v := nI (i + 1)) (lv' := [(4, .int (nI (i + 1))), (3, .int (-1)), (5, .int (nI 0)), (0, .ref m0), (1, .int vh), (2, .int dy)]) C 2 dX8_tareOf_75 rfl (nI_1 i) (by decide) rfl rfl ?_
            refine r_goto (tgt := 5) C dX8_tareOf_78 (by decide) ?_
            refine r_sub (lv' := [(4, .int (nI (i + 1))), (3, .int (-1)), (0, .ref m0), (1, .int vh), (2, .int dy)]) [0, 1, 3, 4, 5] rfl ?_
            exact ih (i + 1) (none) (by omega) (by rw [lu9, if_neg (fun z => absurd z.2.1 (Int32.not_le.mpr hc5))]; exact ho)
          · refine r_iconst (q := 37) C (nI 1) dX8_tareOf_36 (by decide) rfl ?_
            refine r_goto (tgt := 41) C dX8_tareOf_37 (by decide) ?_
            refine r_istore (q := 43) (lv' := [(5, .int (nI 1)), (4, .int (nI i)), (3, .int (-1)), (0, .ref m0), (1, .int vh), (2, .int dy)]) C dX8_tareOf_41 (by decide) rfl rfl ?_
            refine r_iload (q := 45) C 0 dX8_tareOf_43 rfl rfl ?_
            refine r_if_eq_f (q := 48) (tgt := 73) C dX8_tareOf_45 (by decide) rfl (by decide) ?_
            refine r_iload_n (q := 49) C 2 dX8_tareOf_48 rfl rfl ?_
            refine r_if_lt_t (tgt := 68) C dX8_tareOf_49 (by decide) (by decide) ?_
            refine r_iload (q := 70) C 1 dX8_tareOf_68 rfl rfl ?_
            refine r_goto (tgt := 74) C dX8_tareOf_70 (by decide) ?_
            refine r_istore_n (q := 75) (lv' := [(3, .int (nI i)), (5, .int (nI 1)), (4, .int (nI i)), (0, .ref m0), (1, .int vh), (2, .int dy)]) C dX8_tareOf_74 (by decide) rfl rfl ?_
            refine r_iinc (q := 78) (v := nI (i + 1)) (lv' := [(4, .int (nI (i + 1))), (3, .int (nI i)), (5, .int (nI 1)), (0, .ref m0), (1, .int vh), (2, .int dy)]) C 2 dX8_tareOf_75 rfl (nI_1 i) (by decide) rfl rfl ?_
            refine r_goto (tgt := 5) C dX8_tareOf_78 (by decide) ?_
            refine r_sub (lv' := [(4, .int (nI (i + 1))), (3, .int (nI i)), (0, .ref m0), (1, .int vh), (2, .int dy)]) [0, 1, 3, 4, 5] rfl ?_
            exact ih (i + 1) (some i) (by omega) (by rw [lu9, if_pos ⟨hc2, Int32.not_lt.mp hc5, by rw [← ho]; rfl⟩])
      | some k7 =>
        show V g k 6 w 0 0 (kQ g k (fun v w' => v = some (.long (-1)) ∧ w = w') 0 0) 5 [(4, .int (nI i)), (3, .int (nI k7)), (0, .ref m0), (1, .int vh), (2, .int dy)] []
        have hk := lu9_lt i k7 ho.symm
        refine r_iload (q := 7) C 0 dX8_tareOf_5 rfl rfl ?_
        refine r_aload_n (q := 8) C 2 dX8_tareOf_7 rfl rfl ?_
        refine r_get (q := 11) (t := 0) C koX8 h0 5 (by decide) q705 rfl rfl dX8_tareOf_8 rfl ?_
        refine r_icmp_ge_f (q := 14) (tgt := 81) C dX8_tareOf_11 (by decide) rfl (fun z => absurd ((nI_leI (a := tN) (b := i) (by omega) (by omega)).mp z) (by omega)) ?_
        refine r_aload_n (q := 15) C 2 dX8_tareOf_14 rfl rfl ?_
        refine r_get (q := 18) (t := 0) C koX8 h0 3 (by decide) q703 rfl rfl dX8_tareOf_15 rfl ?_
        refine r_iload (q := 20) C 0 dX8_tareOf_18 rfl rfl ?_
        refine r_iald (q := 21) (t := 4) C h4 i rfl (by omega) (by decide) dX8_tareOf_20 rfl ?_
        refine r_iload_n (q := 22) C 3 dX8_tareOf_21 rfl rfl ?_
        refine r_icmp_ne (q := 25) (tgt := 40) C dX8_tareOf_22 (by decide) rfl (fun hc8 => ?_) (fun hc8 => ?_)
        · refine r_iconst (q := 41) C (nI 0) dX8_tareOf_40 (by decide) rfl ?_
          refine r_istore (q := 43) (lv' := [(5, .int (nI 0)), (4, .int (nI i)), (3, .int (nI k7)), (0, .ref m0), (1, .int vh), (2, .int dy)]) C dX8_tareOf_41 (by decide) rfl rfl ?_
          refine r_iload (q := 45) C 0 dX8_tareOf_43 rfl rfl ?_
          refine r_if_eq_t (tgt := 73) C dX8_tareOf_45 (by decide) (by decide) ?_
          refine r_iload_n (q := 74) C 2 dX8_tareOf_73 rfl rfl ?_
          refine r_istore_n (q := 75) (lv' := [(3, .int (nI k7)), (5, .int (nI 0)), (4, .int (nI i)), (0, .ref m0), (1, .int vh), (2, .int dy)]) C dX8_tareOf_74 (by decide) rfl rfl ?_
          refine r_iinc (q := 78) (v := nI (i + 1)) (lv' := [(4, .int (nI (i + 1))), (3, .int (nI k7)), (5, .int (nI 0)), (0, .ref m0), (1, .int vh), (2, .int dy)]) C 2 dX8_tareOf_75 rfl (nI_1 i) (by decide) rfl rfl ?_
          refine r_goto (tgt := 5) C dX8_tareOf_78 (by decide) ?_
          refine r_sub (lv' := [(4, .int (nI (i + 1))), (3, .int (nI k7)), (0, .ref m0), (1, .int vh), (2, .int dy)]) [0, 1, 3, 4, 5] rfl ?_
          exact ih (i + 1) (some k7) (by omega) (by rw [lu9, if_neg (fun z => absurd z.1 hc8)]; exact ho)
        · refine r_aload_n (q := 26) C 2 dX8_tareOf_25 rfl rfl ?_
          refine r_get (q := 29) (t := 0) C koX8 h0 2 (by decide) q702 rfl rfl dX8_tareOf_26 rfl ?_
          refine r_iload (q := 31) C 0 dX8_tareOf_29 rfl rfl ?_
          refine r_iald (q := 32) (t := 3) C h3 i rfl (by omega) (by decide) dX8_tareOf_31 rfl ?_
          refine r_iload_n (q := 33) C 4 dX8_tareOf_32 rfl rfl ?_
          refine r_icmp_gt (q := 36) (tgt := 40) C dX8_tareOf_33 (by decide) rfl (fun hc11 => ?_) (fun hc11 => ?_)
          · refine r_iconst (q := 41) C (nI 0) dX8_tareOf_40 (by decide) rfl ?_
            refine r_istore (q := 43) (lv' := [(5, .int (nI 0)), (4, .int (nI i)), (3, .int (nI k7)), (0, .ref m0), (1, .int vh), (2, .int dy)]) C dX8_tareOf_41 (by decide) rfl rfl ?_
            refine r_iload (q := 45) C 0 dX8_tareOf_43 rfl rfl ?_
            refine r_if_eq_t (tgt := 73) C dX8_tareOf_45 (by decide) (by decide) ?_
            refine r_iload_n (q := 74) C 2 dX8_tareOf_73 rfl rfl ?_
            refine r_istore_n (q := 75) (lv' := [(3, .int (nI k7)), (5, .int (nI 0)), (4, .int (nI i)), (0, .ref m0), (1, .int vh), (2, .int dy)]) C dX8_tareOf_74 (by decide) rfl rfl ?_
            refine r_iinc (q := 78) (v := nI (i + 1)) (lv' := [(4, .int (nI (i + 1))), (3, .int (nI k7)), (5, .int (nI 0)), (0, .ref m0), (1, .int vh), (2, .int dy)]) C 2 dX8_tareOf_75 rfl (nI_1 i) (by decide) rfl rfl ?_
            refine r_goto (tgt := 5) C dX8_tareOf_78 (by decide) ?_
            refine r_sub (lv' := [(4, .int (nI (i + 1))), (3, .int (nI k7)), (0, .ref m0), (1, .int vh), (2, .int dy)]) [0, 1, 3, 4, 5] rfl ?_
            exact ih (i + 1) (some k7) (by omega) (by rw [lu9, if_neg (fun z => absurd z.2.1 (Int32.not_le.mpr hc11))]; exact ho)
          · refine r_iconst (q := 37) C (nI 1) dX8_tareOf_36 (by decide) rfl ?_
            refine r_goto (tgt := 41) C dX8_tareOf_37 (by decide) ?_
            refine r_istore (q := 43) (lv' := [(5, .int (nI 1)), (4, .int (nI i)), (3, .int (nI k7)), (0, .ref m0), (1, .int vh), (2, .int dy)]) C dX8_tareOf_41 (by decide) rfl rfl ?_
            refine r_iload (q := 45) C 0 dX8_tareOf_43 rfl rfl ?_
            refine r_if_eq_f (q := 48) (tgt := 73) C dX8_tareOf_45 (by decide) rfl (by decide) ?_
            refine r_iload_n (q := 49) C 2 dX8_tareOf_48 rfl rfl ?_
            refine r_if_lt_f (q := 52) (tgt := 68) C dX8_tareOf_49 (by decide) rfl (nI_pos (by omega)) ?_
            refine r_aload_n (q := 53) C 3 dX8_tareOf_52 rfl rfl ?_
            refine r_get (q := 56) (t := 0) C koX8 h0 2 (by decide) q702 rfl rfl dX8_tareOf_53 rfl ?_
            refine r_iload (q := 58) C 1 dX8_tareOf_56 rfl rfl ?_
            refine r_iald (q := 59) (t := 3) C h3 i rfl (by omega) (by decide) dX8_tareOf_58 rfl ?_
            refine r_aload_n (q := 60) C 3 dX8_tareOf_59 rfl rfl ?_
            refine r_get (q := 63) (t := 0) C koX8 h0 2 (by decide) q702 rfl rfl dX8_tareOf_60 rfl ?_
            refine r_iload_n (q := 64) C 2 dX8_tareOf_63 rfl rfl ?_
            refine r_iald (q := 65) (t := 3) C h3 k7 rfl (by omega) (by decide) dX8_tareOf_64 rfl ?_
            refine r_icmp_le (q := 68) (tgt := 73) C dX8_tareOf_65 (by decide) rfl (fun hc14 => ?_) (fun hc14 => ?_)
            · refine r_iload_n (q := 74) C 2 dX8_tareOf_73 rfl rfl ?_
              refine r_istore_n (q := 75) (lv' := [(3, .int (nI k7)), (5, .int (nI 1)), (4, .int (nI i)), (0, .ref m0), (1, .int vh), (2, .int dy)]) C dX8_tareOf_74 (by decide) rfl rfl ?_
              refine r_iinc (q := 78) (v := nI (i + 1)) (lv' := [(4, .int (nI (i + 1))), (3, .int (nI k7)), (5, .int (nI 1)), (0, .ref m0), (1, .int vh), (2, .int dy)]) C 2 dX8_tareOf_75 rfl (nI_1 i) (by decide) rfl rfl ?_
              refine r_goto (tgt := 5) C dX8_tareOf_78 (by decide) ?_
              refine r_sub (lv' := [(4, .int (nI (i + 1))), (3, .int (nI k7)), (0, .ref m0), (1, .int vh), (2, .int dy)]) [0, 1, 3, 4, 5] rfl ?_
              exact ih (i + 1) (some k7) (by omega) (by rw [lu9, if_neg (fun z => by have q := z.2.2; rw [← ho] at q; exact absurd (of_decide_eq_true q) (Int32.not_lt.mpr hc14))]; exact ho)
            · refine r_iload (q := 70) C 1 dX8_tareOf_68 rfl rfl ?_
              refine r_goto (tgt := 74) C dX8_tareOf_70 (by decide) ?_
              refine r_istore_n (q := 75) (lv' := [(3, .int (nI i)), (5, .int (nI 1)), (4, .int (nI i)), (0, .ref m0), (1, .int vh), (2, .int dy)]) C dX8_tareOf_74 (by decide) rfl rfl ?_
              refine r_iinc (q := 78) (v := nI (i + 1)) (lv' := [(4, .int (nI (i + 1))), (3, .int (nI i)), (5, .int (nI 1)), (0, .ref m0), (1, .int vh), (2, .int dy)]) C 2 dX8_tareOf_75 rfl (nI_1 i) (by decide) rfl rfl ?_
              refine r_goto (tgt := 5) C dX8_tareOf_78 (by decide) ?_
              refine r_sub (lv' := [(4, .int (nI (i + 1))), (3, .int (nI i)), (0, .ref m0), (1, .int vh), (2, .int dy)]) [0, 1, 3, 4, 5] rfl ?_
              exact ih (i + 1) (some i) (by omega) (by rw [lu9, if_pos ⟨hc8, Int32.not_lt.mp hc11, by rw [← ho]; exact decide_eq_true (Int32.not_le.mp hc14)⟩])
  exact loop tN 0 none (by omega) rfl
