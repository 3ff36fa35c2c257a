/-! TicketChain: greatest, fits, dayOf, find, spoilNumber, the new rows -/
def mx9 (f : Nat) : Nat := [0, 99, 9, 1000000000, 1000000000, 0, 8000000000, 999].getD f 0
def cb9 (f : Nat) : Prop := f = 1 ∨ f = 2 ∨ f = 3 ∨ f = 4 ∨ f = 6 ∨ f = 7
def ok9 (x : Int32) (v : Int64) : Prop := ∃ f n : Nat, x = nI f ∧ cb9 f ∧ n ≤ mx9 f ∧ v = lN n
theorem mx9_le {f : Nat} (h : cb9 f) : mx9 f ≤ 8000000000 := by
  rcases h with rfl | rfl | rfl | rfl | rfl | rfl <;> decide
theorem i32_neg {x : Int32} (h : x < 0) : x.toInt < 0 := by
  have h2 := Int32.lt_iff_toInt_lt.mp h
  have h3 : (0 : Int32).toInt = 0 := by decide
  omega
theorem i32_ge8 {x : Int32} (h : nI 8 ≤ x) : 7 < x.toInt := by
  have h2 := Int32.le_iff_toInt_le.mp h
  have h3 : (nI 8).toInt = 8 := by decide
  omega
theorem m1_lt {n : Nat} (h : n < 2 ^ 63) : (-1 : Int64) < lN n := by
  rw [Int64.lt_iff_toInt_lt, pk_lT h]
  have h3 : (-1 : Int64).toInt = -1 := by decide
  omega
/-- a ticket's field, the net one reckoned -/
def fv9 (fn : Nat → Nat) (k j : Nat) : Nat := if j = 5 then fn (9 * k + 3) - fn (9 * k + 4) else fn (9 * k + j)
/-- a ticket row's, a correction's and a voiding's own 41 bytes -/
def tkB (nu vh kd gr ta sc ps : Nat) : Nat → Int32 := wrF (wrF (wrF (wrF (wrF (wrF (wrF (wrF (fun _ => 0) 0 1 1 (lN 1)) 1 4 4 (lN nu)) 5 4 4 (lN vh)) 9 4 4 (lN kd)) 13 8 8 (lN gr)) 21 8 8 (lN ta)) 29 8 8 (lN sc)) 37 4 4 (lN ps)
def crB (nu fd v ps : Nat) : Nat → Int32 := wrF (wrF (wrF (wrF (wrF (fun _ => 0) 0 1 1 (lN 2)) 1 4 4 (lN nu)) 5 4 4 (lN fd)) 9 8 8 (lN v)) 17 4 4 (lN ps)
def vdR (nu rs : Nat) : Nat → Int32 := wrF (wrF (wrF (fun _ => 0) 0 1 1 (lN 3)) 1 4 4 (lN nu)) 5 4 4 (lN rs)
set_option maxHeartbeats 4000000 in
set_option maxRecDepth 20000 in
theorem c_gr_y {l : Launch} {g : cx_G} {w : wd_T} {f : Nat} (hf : cb9 f) : Mt l g yX7_greatest cX7_greatest 1 (some .long) 0 0 0 w [.int (nI f)] (fun v w' => v = some (.long (lN (mx9 f))) ∧ w = w') := by
  refine mt_of RX7 "greatest" rfl rfl (by decide) (Nat.le_of_ble_eq_true rfl) [(0, .int (nI f))] rfl ?_
  intro k hkl C hin
  subst hkl
  rcases hf with rfl | rfl | rfl | rfl | rfl | rfl
  · refine r_iload_n (q := 1) C 0 dX7_greatest_0 rfl rfl ?_
    refine r_tableIn (tgt := 44) (off := 43) C dX7_greatest_1 (by decide) (by decide) rfl (by decide) ?_
    refine r_ldc2 (q := 47) (v := lN 99) C dX7_greatest_44 q158 rfl ?_
    exact r_lret C rfl (by decide) (by decide) dX7_greatest_47 ⟨rfl, rfl⟩
  · refine r_iload_n (q := 1) C 0 dX7_greatest_0 rfl rfl ?_
    refine r_tableIn (tgt := 48) (off := 47) C dX7_greatest_1 (by decide) (by decide) rfl (by decide) ?_
    refine r_ldc2 (q := 51) (v := lN 9) C dX7_greatest_48 q159 rfl ?_
    exact r_lret C rfl (by decide) (by decide) dX7_greatest_51 ⟨rfl, rfl⟩
  · refine r_iload_n (q := 1) C 0 dX7_greatest_0 rfl rfl ?_
    refine r_tableIn (tgt := 52) (off := 51) C dX7_greatest_1 (by decide) (by decide) rfl (by decide) ?_
    refine r_ldc2 (q := 55) (v := lN 1000000000) C dX7_greatest_52 q160 rfl ?_
    exact r_lret C rfl (by decide) (by decide) dX7_greatest_55 ⟨rfl, rfl⟩
  · refine r_iload_n (q := 1) C 0 dX7_greatest_0 rfl rfl ?_
    refine r_tableIn (tgt := 52) (off := 51) C dX7_greatest_1 (by decide) (by decide) rfl (by decide) ?_
    refine r_ldc2 (q := 55) (v := lN 1000000000) C dX7_greatest_52 q160 rfl ?_
    exact r_lret C rfl (by decide) (by decide) dX7_greatest_55 ⟨rfl, rfl⟩
  · refine r_iload_n (q := 1) C 0 dX7_greatest_0 rfl rfl ?_
    refine r_tableIn (tgt := 56) (off := 55) C dX7_greatest_1 (by decide) (by decide) rfl (by decide) ?_
    refine r_ldc2 (q := 59) (v := lN 8000000000) C dX7_greatest_56 q161 rfl ?_
    exact r_lret C rfl (by decide) (by decide) dX7_greatest_59 ⟨rfl, rfl⟩
  · refine r_iload_n (q := 1) C 0 dX7_greatest_0 rfl rfl ?_
    refine r_tableIn (tgt := 60) (off := 59) C dX7_greatest_1 (by decide) (by decide) rfl (by decide) ?_
    refine r_ldc2 (q := 63) (v := lN 999) C dX7_greatest_60 q162 rfl ?_
    exact r_lret C rfl (by decide) (by decide) dX7_greatest_63 ⟨rfl, rfl⟩

set_option maxHeartbeats 4000000 in
set_option maxRecDepth 20000 in
theorem c_gr_n {l : Launch} {g : cx_G} {w : wd_T} {x : Int32} (hx : ¬ ∃ f, x = nI f ∧ cb9 f) : Mt l g yX7_greatest cX7_greatest 1 (some .long) 0 0 0 w [.int x] (fun v w' => v = some (.long (-1)) ∧ w = w') := by
  refine mt_of RX7 "greatest" rfl rfl (by decide) (Nat.le_of_ble_eq_true rfl) [(0, .int x)] rfl ?_
  intro k hkl C hin
  subst hkl
  rcases pk_ix x (n := 8) (by decide) with h9 | h9 | ⟨j, hj, rfl⟩
  · refine r_iload_n (q := 1) C 0 dX7_greatest_0 rfl rfl ?_
    refine r_tableOut (tgt := 64) C dX7_greatest_1 (Or.inl (by have := i32_neg h9; omega)) (by decide) ?_
    refine r_ldc2 (q := 67) (v := (-1)) C dX7_greatest_64 q163 rfl ?_
    exact r_lret C rfl (by decide) (by decide) dX7_greatest_67 ⟨rfl, rfl⟩
  · refine r_iload_n (q := 1) C 0 dX7_greatest_0 rfl rfl ?_
    refine r_tableOut (tgt := 64) C dX7_greatest_1 (Or.inr (i32_ge8 h9)) (by decide) ?_
    refine r_ldc2 (q := 67) (v := (-1)) C dX7_greatest_64 q163 rfl ?_
    exact r_lret C rfl (by decide) (by decide) dX7_greatest_67 ⟨rfl, rfl⟩
  · have c : j = 0 ∨ j = 5 ∨ cb9 j := by unfold cb9; omega
    rcases c with rfl | rfl | c
    · refine r_iload_n (q := 1) C 0 dX7_greatest_0 rfl rfl ?_
      refine r_tableOut (tgt := 64) C dX7_greatest_1 (Or.inl (by decide)) (by decide) ?_
      refine r_ldc2 (q := 67) (v := (-1)) C dX7_greatest_64 q163 rfl ?_
      exact r_lret C rfl (by decide) (by decide) dX7_greatest_67 ⟨rfl, rfl⟩
    · refine r_iload_n (q := 1) C 0 dX7_greatest_0 rfl rfl ?_
      refine r_tableIn (tgt := 64) (off := 63) C dX7_greatest_1 (by decide) (by decide) rfl (by decide) ?_
      refine r_ldc2 (q := 67) (v := (-1)) C dX7_greatest_64 q163 rfl ?_
      exact r_lret C rfl (by decide) (by decide) dX7_greatest_67 ⟨rfl, rfl⟩
    · exact absurd ⟨j, rfl, c⟩ hx

set_option maxHeartbeats 4000000 in
set_option maxRecDepth 20000 in
theorem c_fits_y {l : Launch} {g : cx_G} {w : wd_T} {f n : Nat} (hf : cb9 f) (hn : n ≤ mx9 f) : Mt l g yX7_fits cX7_fits 3 (some .boolean) 1 0 0 w [.int (nI f), .long (lN n)] (fun v w' => v = some (.int (nI 1)) ∧ w = w') := by
  refine mt_of RX7 "fits" rfl rfl (by decide) (Nat.le_of_ble_eq_true rfl) [(0, .int (nI f)), (1, .long (lN n))] rfl ?_
  intro k hkl C hin
  subst hkl
  have hm := mx9_le hf
  refine r_lload_n (q := 1) C 1 dX7_fits_0 rfl rfl ?_
  refine r_lconst (q := 2) C (lN 0) dX7_fits_1 (by decide) rfl ?_
  refine r_lcmp_lt (q := 3) (q2 := 6) (tgt := 19) C dX7_fits_2 rfl dX7_fits_3 (by decide) rfl (fun hz1 => absurd (fun z => absurd ((pk_lLT (a := n) (b := 0) (by omega) (by omega)).mp z) (by omega)) (by first | exact hz1 | exact fun zz => zz hz1)) (fun _ => ?_)
  refine r_lload_n (q := 7) C 1 dX7_fits_6 rfl rfl ?_
  refine r_iload_n (q := 8) C 0 dX7_fits_7 rfl rfl ?_
  refine r_callS (q := 11) (As := [.int (nI f)]) (st := [.long (lN n)]) C (c_gr_y hf) q157 q155 q156 q1 ⟨by decide, by decide⟩ (show (parseMethodDescriptor yX7_greatest.desc).map (fun d => d.parameters.length) = some 1 by decide +kernel) (by decide) (by decide) (by decide) (by decide) (Nat.le_of_ble_eq_true rfl) rfl dX7_fits_8 rfl ?_
  rintro v9 w2 ⟨rfl, rfl⟩
  show V g k 3 w 0 0 (kQ g k (fun v w' => v = some (.int (nI 1)) ∧ w = w') 0 0) 11 [(0, .int (nI f)), (1, .long (lN n))] [.long (lN (mx9 f)), .long (lN n)]
  refine r_lcmp_gt (q := 12) (q2 := 15) (tgt := 19) C dX7_fits_11 rfl dX7_fits_12 (by decide) rfl (fun hz3 => absurd (fun z => absurd ((pk_lLT (a := (mx9 f)) (b := n) (by omega) (by omega)).mp z) (by omega)) (by first | exact hz3 | exact fun zz => zz hz3)) (fun _ => ?_)
  refine r_iconst (q := 16) C (nI 1) dX7_fits_15 (by decide) rfl ?_
  refine r_goto (tgt := 20) C dX7_fits_16 (by decide) ?_
  exact r_zret C rfl rfl (by decide) (by decide) dX7_fits_20 ⟨rfl, rfl⟩

set_option maxHeartbeats 4000000 in
set_option maxRecDepth 20000 in
theorem c_fits_n {l : Launch} {g : cx_G} {w : wd_T} {x : Int32} {v : Int64} (hx : ¬ ok9 x v) : Mt l g yX7_fits cX7_fits 3 (some .boolean) 1 0 0 w [.int x, .long v] (fun v9 w' => v9 = some (.int (nI 0)) ∧ w = w') := by
  refine mt_of RX7 "fits" rfl rfl (by decide) (Nat.le_of_ble_eq_true rfl) [(0, .int x), (1, .long v)] rfl ?_
  intro k hkl C hin
  subst hkl
  refine r_lload_n (q := 1) C 1 dX7_fits_0 rfl rfl ?_
  refine r_lconst (q := 2) C (lN 0) dX7_fits_1 (by decide) rfl ?_
  refine r_lcmp_lt (q := 3) (q2 := 6) (tgt := 19) C dX7_fits_2 rfl dX7_fits_3 (by decide) rfl (fun hc1 => ?_) (fun hc1 => ?_)
  · refine r_iconst (q := 20) C (nI 0) dX7_fits_19 (by decide) rfl ?_
    exact r_zret C rfl rfl (by decide) (by decide) dX7_fits_20 ⟨rfl, rfl⟩
  · obtain ⟨n, hn, rfl⟩ := pk_lOf hc1
    refine r_lload_n (q := 7) C 1 dX7_fits_6 rfl rfl ?_
    refine r_iload_n (q := 8) C 0 dX7_fits_7 rfl rfl ?_
    by_cases hf : ∃ f, x = nI f ∧ cb9 f
    · obtain ⟨f, rfl, hf⟩ := hf
      have hm := mx9_le hf
      refine r_callS (q := 11) (As := [.int (nI f)]) (st := [.long (lN n)]) C (c_gr_y hf) q157 q155 q156 q1 ⟨by decide, by decide⟩ (show (parseMethodDescriptor yX7_greatest.desc).map (fun d => d.parameters.length) = some 1 by decide +kernel) (by decide) (by decide) (by decide) (by decide) (Nat.le_of_ble_eq_true rfl) rfl dX7_fits_8 rfl ?_
      rintro v9 w4 ⟨rfl, rfl⟩
      show V g k 3 w 0 0 (kQ g k (fun v9 w' => v9 = some (.int (nI 0)) ∧ w = w') 0 0) 11 [(0, .int (nI f)), (1, .long (lN n))] [.long (lN (mx9 f)), .long (lN n)]
      refine r_lcmp_gt (q := 12) (q2 := 15) (tgt := 19) C dX7_fits_11 rfl dX7_fits_12 (by decide) rfl (fun _ => ?_) (fun hz5 => absurd ((pk_lLT (a := (mx9 f)) (b := n) (by omega) (by omega)).mpr (by rcases Nat.lt_or_ge (mx9 f) n with z | z; exact z; exact absurd ⟨f, n, rfl, hf, z, rfl⟩ hx)) (by first | exact hz5 | exact fun zz => zz hz5))
      refine r_iconst (q := 20) C (nI 0) dX7_fits_19 (by decide) rfl ?_
      exact r_zret C rfl rfl (by decide) (by decide) dX7_fits_20 ⟨rfl, rfl⟩
    · refine r_callS (q := 11) (As := [.int x]) (st := [.long (lN n)]) C (c_gr_n hf) q157 q155 q156 q1 ⟨by decide, by decide⟩ (show (parseMethodDescriptor yX7_greatest.desc).map (fun d => d.parameters.length) = some 1 by decide +kernel) (by decide) (by decide) (by decide) (by decide) (Nat.le_of_ble_eq_true rfl) rfl dX7_fits_8 rfl ?_
      rintro v9 w6 ⟨rfl, rfl⟩
      show V g k 3 w 0 0 (kQ g k (fun v9 w' => v9 = some (.int (nI 0)) ∧ w = w') 0 0) 11 [(0, .int x), (1, .long (lN n))] [.long (-1), .long (lN n)]
      refine r_lcmp_gt (q := 12) (q2 := 15) (tgt := 19) C dX7_fits_11 rfl dX7_fits_12 (by decide) rfl (fun _ => ?_) (fun hz7 => absurd (m1_lt hn) (by first | exact hz7 | exact fun zz => zz hz7))
      refine r_iconst (q := 20) C (nI 0) dX7_fits_19 (by decide) rfl ?_
      exact r_zret C rfl rfl (by decide) (by decide) dX7_fits_20 ⟨rfl, rfl⟩

set_option maxHeartbeats 4000000 in
set_option maxRecDepth 20000 in
theorem c_dayOf {l : Launch} {g : cx_G} {w : wd_T} {n : Nat} (hn : n ≤ 8000000000) : Mt l g yX7_dayOf cX7_dayOf 2 (some .int) 0 0 0 w [.long (lN n)] (fun v w' => v = some (.int (nI (n / 86400))) ∧ w = w') := by
  refine mt_of RX7 "dayOf" rfl rfl (by decide) (Nat.le_of_ble_eq_true rfl) [(0, .long (lN n))] rfl ?_
  intro k hkl C hin
  subst hkl
  refine r_lload_n (q := 1) C 0 dX7_dayOf_0 rfl rfl ?_
  refine r_ldc2 (q := 4) (v := lN 86400) C dX7_dayOf_1 q274 rfl ?_
  refine r_ldiv (q := 5) C dX7_dayOf_4 (by decide) rfl ?_
  refine r_tl (show ((lN n) / (lN 86400) : Int64) = lN (n / 86400) from pk_lDiv (by omega) (by omega) (by omega)) ?_
  refine r_l2i (q := 6) C dX7_dayOf_5 rfl ?_
  refine r_ti (show ((lN (n / 86400)).toInt32 : Int32) = nI (n / 86400) from lN_i (n / 86400)) ?_
  exact r_iret C rfl (by decide) (by decide) dX7_dayOf_6 ⟨rfl, rfl⟩

set_option maxHeartbeats 4000000 in
set_option maxRecDepth 20000 in
theorem c_findT_y {l : Launch} {g : cx_G} {w : wd_T} {a0 a1 alk asp gN nu a3 af : Nat} (h100 : w 100 = some (a0, ob 7 [.ref a1, .ref alk, .ref asp, .int (nI gN), .int (nI nu), .ref a3, .ref af])) {tk : Nat} {el : Nat → Nat} (hl : LsAt g w 123 alk tk el (fun j => 1000 + 3 * j)) (hn : tk ≤ 200) {k9 af9 aw9 : Nat} (hk9 : k9 < tk) (ho : w (1000 + 3 * k9) = some (el k9, ob 6 [.ref af9, .ref aw9])) : Mt l g yX7_find cX7_find 2 (some (.object "TicketChain$Ticket")) 3 0 0 w [.ref a0, .int (nI k9)] (fun v w' => v = some (.ref (el k9)) ∧ w = w') := by
  refine mt_of RX7 "find" rfl rfl (by decide) (Nat.le_of_ble_eq_true rfl) [(0, .ref a0), (1, .int (nI k9))] rfl ?_
  intro k hkl C hin
  subst hkl
  obtain ⟨m9, ae, hls⟩ := (hl).get
  refine r_iload_n (q := 1) C 1 dX7_find_0 rfl rfl ?_
  refine r_if_lt_f (q := 4) (tgt := 29) C dX7_find_1 (by decide) rfl (nI_pos (by omega)) ?_
  refine r_iload_n (q := 5) C 1 dX7_find_4 rfl rfl ?_
  refine r_aload_n (q := 6) C 0 dX7_find_5 rfl rfl ?_
  refine r_get (q := 9) (t := 100) C koX7 h100 1 (by decide) q126 rfl rfl dX7_find_6 rfl ?_
  refine r_callV (q := 12) (t := 123) (As := []) (st := [.int (nI k9)]) C koJx4a65c hls (c_ALsize hl) q175 q400 q173 q174 q5 rfl ⟨by decide, by decide⟩ (show (parseMethodDescriptor yJx4a65c_size_8abf5.desc).map (fun d => d.parameters.length) = some 0 by decide +kernel) (by decide) (by decide) (by decide) (by decide) (Nat.le_of_ble_eq_true rfl) rfl dX7_find_9 rfl ?_
  rintro v9 w1 ⟨rfl, rfl⟩
  show V g k 2 w 0 0 (kQ g k (fun v w' => v = some (.ref (el k9)) ∧ w = w') 0 0) 12 [(0, .ref a0), (1, .int (nI k9))] [.int (nI tk), .int (nI k9)]
  refine r_icmp_ge_f (q := 15) (tgt := 29) C dX7_find_12 (by decide) rfl (fun z => absurd ((nI_leI (a := tk) (b := k9) (by omega) (by omega)).mp z) (by omega)) ?_
  refine r_aload_n (q := 16) C 0 dX7_find_15 rfl rfl ?_
  refine r_get (q := 19) (t := 100) C koX7 h100 1 (by decide) q126 rfl rfl dX7_find_16 rfl ?_
  refine r_iload_n (q := 20) C 1 dX7_find_19 rfl rfl ?_
  refine r_callV (q := 23) (t := 123) (As := [.int (nI k9)]) (st := []) C koJx4a65c hls (c_ALget hl hk9 (by omega)) q179 q409 q177 q178 q5 rfl ⟨by decide, by decide⟩ (show (parseMethodDescriptor yJx4a65c_get_915e3.desc).map (fun d => d.parameters.length) = some 1 by decide +kernel) (by decide) (by decide) (by decide) (by decide) (Nat.le_of_ble_eq_true rfl) rfl dX7_find_20 rfl ?_
  rintro v9 w2 ⟨rfl, rfl⟩
  show V g k 2 w 0 0 (kQ g k (fun v w' => v = some (.ref (el k9)) ∧ w = w') 0 0) 23 [(0, .ref a0), (1, .int (nI k9))] [.ref (el k9)]
  refine r_castS (q := 26) (t := (1000 + 3 * k9)) C koX6 ho q289 rfl dX7_find_23 rfl ?_
  refine r_goto (tgt := 30) C dX7_find_26 (by decide) ?_
  exact r_aret C rfl (Or.inl ⟨_, rfl⟩) (Or.inr ⟨_, rfl⟩) (by decide) (by decide) dX7_find_30 ⟨rfl, rfl⟩

set_option maxHeartbeats 4000000 in
set_option maxRecDepth 20000 in
theorem c_findT_n {l : Launch} {g : cx_G} {w : wd_T} {a0 a1 alk asp gN nu a3 af : Nat} (h100 : w 100 = some (a0, ob 7 [.ref a1, .ref alk, .ref asp, .int (nI gN), .int (nI nu), .ref a3, .ref af])) {tk : Nat} {el : Nat → Nat} (hl : LsAt g w 123 alk tk el (fun j => 1000 + 3 * j)) (hn : tk ≤ 200) {x : Int32} (hx : x < 0 ∨ nI tk ≤ x) : Mt l g yX7_find cX7_find 2 (some (.object "TicketChain$Ticket")) 3 0 0 w [.ref a0, .int x] (fun v w' => v = some .null ∧ w = w') := by
  refine mt_of RX7 "find" rfl rfl (by decide) (Nat.le_of_ble_eq_true rfl) [(0, .ref a0), (1, .int x)] rfl ?_
  intro k hkl C hin
  subst hkl
  obtain ⟨m9, ae, hls⟩ := (hl).get
  refine r_iload_n (q := 1) C 1 dX7_find_0 rfl rfl ?_
  refine r_if_lt (q := 4) (tgt := 29) C dX7_find_1 (by decide) rfl (fun hc1 => ?_) (fun hc1 => ?_)
  · refine r_null (q := 30) C dX7_find_29 rfl ?_
    exact r_aret C rfl (Or.inl ⟨_, rfl⟩) (Or.inl rfl) (by decide) (by decide) dX7_find_30 ⟨rfl, rfl⟩
  · refine r_iload_n (q := 5) C 1 dX7_find_4 rfl rfl ?_
    refine r_aload_n (q := 6) C 0 dX7_find_5 rfl rfl ?_
    refine r_get (q := 9) (t := 100) C koX7 h100 1 (by decide) q126 rfl rfl dX7_find_6 rfl ?_
    refine r_callV (q := 12) (t := 123) (As := []) (st := [.int x]) C koJx4a65c hls (c_ALsize hl) q175 q400 q173 q174 q5 rfl ⟨by decide, by decide⟩ (show (parseMethodDescriptor yJx4a65c_size_8abf5.desc).map (fun d => d.parameters.length) = some 0 by decide +kernel) (by decide) (by decide) (by decide) (by decide) (Nat.le_of_ble_eq_true rfl) rfl dX7_find_9 rfl ?_
    rintro v9 w4 ⟨rfl, rfl⟩
    show V g k 2 w 0 0 (kQ g k (fun v w' => v = some .null ∧ w = w') 0 0) 12 [(0, .ref a0), (1, .int x)] [.int (nI tk), .int x]
    refine r_icmp_ge_t (tgt := 29) C dX7_find_12 (by decide) (by rcases hx with z | z; exact absurd z hc1; exact z) ?_
    refine r_null (q := 30) C dX7_find_29 rfl ?_
    exact r_aret C rfl (Or.inl ⟨_, rfl⟩) (Or.inl rfl) (by decide) (by decide) dX7_find_30 ⟨rfl, rfl⟩

set_option maxHeartbeats 4000000 in
set_option maxRecDepth 20000 in
theorem c_spoil {l : Launch} {g : cx_G} {w : wd_T} {a0 a1 alk asp gN nu a3 af : Nat} (h100 : w 100 = some (a0, ob 7 [.ref a1, .ref alk, .ref asp, .int (nI gN), .int (nI nu), .ref a3, .ref af])) {gp : Nat → Int32} (h102 : w 102 = some (asp, aI g 400 gp)) (hg : gN ≤ 200) (hu : nu ≤ 300) : Mt l g yX7_spoilNumber cX7_spoilNumber 1 (some .int) 0 0 0 w [.ref a0] (fun v w' => v = some (.int (-2)) ∧ w' 100 = some (a0, ob 7 [.ref a1, .ref alk, .ref asp, .int (nI (gN + 1)), .int (nI (nu + 1)), .ref a3, .ref af]) ∧ w' 102 = some (asp, aI g 400 (upd gp gN (nI nu))) ∧ ∀ t, t ≠ 100 → t ≠ 102 → w' t = w t) := by
  refine mt_of RX7 "spoilNumber" rfl rfl (by decide) (Nat.le_of_ble_eq_true rfl) [(0, .ref a0)] rfl ?_
  intro k hkl C hin
  subst hkl
  refine r_aload_n (q := 1) C 0 dX7_spoilNumber_0 rfl rfl ?_
  refine r_get (q := 4) (t := 100) C koX7 h100 3 (by decide) q128 rfl rfl dX7_spoilNumber_1 rfl ?_
  refine r_aload_n (q := 5) C 0 dX7_spoilNumber_4 rfl rfl ?_
  refine r_get (q := 8) (t := 100) C koX7 h100 2 (by decide) q127 rfl rfl dX7_spoilNumber_5 rfl ?_
  refine r_ilen (q := 9) (t := 102) C h102 dX7_spoilNumber_8 rfl ?_
  refine r_icmp_ge_f (q := 12) (tgt := 35) C dX7_spoilNumber_9 (by decide) rfl (fun z => absurd ((nI_leI (a := 400) (b := gN) (by omega) (by omega)).mp z) (by omega)) ?_
  refine r_aload_n (q := 13) C 0 dX7_spoilNumber_12 rfl rfl ?_
  refine r_get (q := 16) (t := 100) C koX7 h100 2 (by decide) q127 rfl rfl dX7_spoilNumber_13 rfl ?_
  refine r_aload_n (q := 17) C 0 dX7_spoilNumber_16 rfl rfl ?_
  refine r_get (q := 20) (t := 100) C koX7 h100 3 (by decide) q128 rfl rfl dX7_spoilNumber_17 rfl ?_
  refine r_aload_n (q := 21) C 0 dX7_spoilNumber_20 rfl rfl ?_
  refine r_get (q := 24) (t := 100) C koX7 h100 4 (by decide) q129 rfl rfl dX7_spoilNumber_21 rfl ?_
  refine r_iast (q := 25) (t := 102) (w' := wd_set w 102 asp (aI g 400 (upd gp gN (nI nu)))) C h102 gN rfl (by omega) (by decide) dX7_spoilNumber_24 rfl rfl ?_
  refine r_aload_n (q := 26) C 0 dX7_spoilNumber_25 rfl rfl ?_
  refine r_dup (q := 27) C dX7_spoilNumber_26 rfl rfl ?_
  refine r_get (q := 30) (t := 100) C koX7 ((wd_ne (by decide)).trans h100) 3 (by decide) q128 rfl rfl dX7_spoilNumber_27 rfl ?_
  refine r_iconst (q := 31) C (nI 1) dX7_spoilNumber_30 (by decide) rfl ?_
  refine r_iadd (q := 32) C dX7_spoilNumber_31 rfl ?_
  refine r_ti (show ((nI gN) + (nI 1) : Int32) = nI (gN + 1) from nI_add gN 1) ?_
  refine r_put (q := 35) (t := 100) (w' := wd_set (wd_set w 102 asp (aI g 400 (upd gp gN (nI nu)))) 100 a0 (ob 7 [.ref a1, .ref alk, .ref asp, .int (nI (gN + 1)), .int (nI nu), .ref a3, .ref af])) C koX7 ((wd_ne (by decide)).trans h100) 3 (by decide) q128 rfl rfl rfl rfl (Nat.le_of_ble_eq_true rfl) dX7_spoilNumber_32 rfl rfl ?_
  refine r_aload_n (q := 36) C 0 dX7_spoilNumber_35 rfl rfl ?_
  refine r_dup (q := 37) C dX7_spoilNumber_36 rfl rfl ?_
  refine r_get (q := 40) (t := 100) C koX7 wd_eq 4 (by decide) q129 rfl rfl dX7_spoilNumber_37 rfl ?_
  refine r_iconst (q := 41) C (nI 1) dX7_spoilNumber_40 (by decide) rfl ?_
  refine r_iadd (q := 42) C dX7_spoilNumber_41 rfl ?_
  refine r_ti (show ((nI nu) + (nI 1) : Int32) = nI (nu + 1) from nI_add nu 1) ?_
  refine r_put (q := 45) (t := 100) (w' := wd_set (wd_set w 102 asp (aI g 400 (upd gp gN (nI nu)))) 100 a0 (ob 7 [.ref a1, .ref alk, .ref asp, .int (nI (gN + 1)), .int (nI (nu + 1)), .ref a3, .ref af])) C koX7 wd_eq 4 (by decide) q129 rfl rfl rfl rfl (Nat.le_of_ble_eq_true rfl) dX7_spoilNumber_42 rfl wd_ss ?_
  refine r_bipush (q := 47) C ((-2)) dX7_spoilNumber_45 (by decide) rfl ?_
  exact r_iret C rfl (by decide) (by decide) dX7_spoilNumber_47 ⟨rfl, wd_eq, ((wd_ne (by decide)).trans wd_eq), fun t h1 h2 => by simp only [wd_set, if_neg h1, if_neg h2]⟩

set_option maxHeartbeats 4000000 in
set_option maxRecDepth 20000 in
theorem c_ticketRow {l : Launch} {g : cx_G} {w : wd_T} {at9 atf atw t : Nat} {ff : Nat → Int64} {vf : Nat → Nat} (ht : 1000 ≤ t) (ht2 : t + 2 < 2000) (h0 : w t = some (at9, ob 6 [.ref atf, .ref atw])) (h1 : w (t + 1) = some (atf, aL g 9 ff)) (hv : ∀ i, i < 9 → ff i = lN (vf i)) (hsc : vf 6 ≤ 8000000000) {n : Nat} : Mt l g yX7_ticketRow cX7_ticketRow 2 (some (.object "TicketChain$Row")) 2 2 76 w [.ref at9] (fun v w' => ∃ ar br nr, v = some (.ref ar) ∧ w' (2000 + 2 * n) = some (ar, ob 2 [.ref br, .int (nI (vf 6 / 86400)), .int nr]) ∧ w' (2001 + 2 * n) = some (br, aB g 73 (tkB (vf 0) (vf 1) (vf 2) (vf 3) (vf 4) (vf 6) (vf 7))) ∧ Fr w w' (2000 + 2 * n) (2002 + 2 * n)) := by
  refine mt_of RX7 "ticketRow" rfl rfl (by decide) (Nat.le_of_ble_eq_true rfl) [(0, .ref at9)] rfl ?_
  intro k hkl C hin
  subst hkl
  refine r_new (q := 3) C koX2 q307 q308 q18 (2000 + 2 * n) [.null, .int 0, .int 0] (fun j hj => by rcases (show j = 0 ∨ j = 1 ∨ j = 2 by omega) with rfl | rfl | rfl <;> rfl) (by decide) (by decide) dX7_ticketRow_0 rfl (fun ar => ?_)
  refine r_dup (q := 4) C dX7_ticketRow_3 rfl rfl ?_
  refine r_aload_n (q := 5) C 0 dX7_ticketRow_4 rfl rfl ?_
  refine r_bipush (q := 7) C (nI 6) dX7_ticketRow_5 (by decide) rfl ?_
  refine r_callV (q := 10) (t := t) (As := [.int (nI 6)]) (st := [.ref ar, .ref ar]) C koX6 ((wd_ne (by omega)).trans h0) (c_fld_y ((wd_ne (by omega)).trans h0) ((wd_ne (by omega)).trans h1) (i := 6) (by decide)) q312 q309 q310 q311 q17 rfl ⟨by decide, by decide⟩ (show (parseMethodDescriptor yX6_field.desc).map (fun d => d.parameters.length) = some 1 by decide +kernel) (by decide) (by decide) (by decide) (by decide) (Nat.le_of_ble_eq_true rfl) rfl dX7_ticketRow_7 rfl ?_
  rintro v9 w1 ⟨rfl, rfl⟩
  show V g k 2 (wd_set w (2000 + 2 * n) ar (ob 2 [.null, .int 0, .int 0])) 1 3 (kQ g k (fun v w' => ∃ ar br nr, v = some (.ref ar) ∧ w' (2000 + 2 * n) = some (ar, ob 2 [.ref br, .int (nI (vf 6 / 86400)), .int nr]) ∧ w' (2001 + 2 * n) = some (br, aB g 73 (tkB (vf 0) (vf 1) (vf 2) (vf 3) (vf 4) (vf 6) (vf 7))) ∧ Fr w w' (2000 + 2 * n) (2002 + 2 * n)) 2 76) 10 [(0, .ref at9)] [.long (ff 6), .ref ar, .ref ar]
  refine r_tl (show (ff 6 : Int64) = lN (vf 6) from hv _ (by decide)) ?_
  refine r_callS (q := 13) (As := [.long (lN (vf 6))]) (st := [.ref ar, .ref ar]) C (c_dayOf hsc) q273 q271 q272 q1 ⟨by decide, by decide⟩ (show (parseMethodDescriptor yX7_dayOf.desc).map (fun d => d.parameters.length) = some 1 by decide +kernel) (by decide) (by decide) (by decide) (by decide) (Nat.le_of_ble_eq_true rfl) rfl dX7_ticketRow_10 rfl ?_
  rintro v9 w2 ⟨rfl, rfl⟩
  show V g k 2 (wd_set w (2000 + 2 * n) ar (ob 2 [.null, .int 0, .int 0])) 1 3 (kQ g k (fun v w' => ∃ ar br nr, v = some (.ref ar) ∧ w' (2000 + 2 * n) = some (ar, ob 2 [.ref br, .int (nI (vf 6 / 86400)), .int nr]) ∧ w' (2001 + 2 * n) = some (br, aB g 73 (tkB (vf 0) (vf 1) (vf 2) (vf 3) (vf 4) (vf 6) (vf 7))) ∧ Fr w w' (2000 + 2 * n) (2002 + 2 * n)) 2 76) 13 [(0, .ref at9)] [.int (nI (vf 6 / 86400)), .ref ar, .ref ar]
  refine r_callI (q := 16) (As := [.int (nI (vf 6 / 86400))]) (st := [.ref ar]) C (c_RowInit wd_eq) q316 q314 q315 q18 rfl ⟨by decide, by decide⟩ (show (parseMethodDescriptor yX2_init.desc).map (fun d => d.parameters.length) = some 1 by decide +kernel) (by decide) (by decide) (by decide) (by decide) (Nat.le_of_ble_eq_true rfl) rfl dX7_ticketRow_13 rfl ?_
  rintro v9 w5 ⟨rfl, ⟨br, r0, r1'⟩, ef⟩
  have r1 : w5 (2001 + 2 * n) = some (br, aB g 73 (fun _ => 0)) := by rw [show 2001 + 2 * n = 2000 + 2 * n + 1 by omega]; exact r1'
  clear r1'
  have k5 : Fr w w5 (2000 + 2 * n) (2002 + 2 * n) := fun u hu => (ef u (by omega)).trans (wd_ne (by omega))
  show V g k 2 w5 2 76 (kQ g k (fun v w' => ∃ ar br nr, v = some (.ref ar) ∧ w' (2000 + 2 * n) = some (ar, ob 2 [.ref br, .int (nI (vf 6 / 86400)), .int nr]) ∧ w' (2001 + 2 * n) = some (br, aB g 73 (tkB (vf 0) (vf 1) (vf 2) (vf 3) (vf 4) (vf 6) (vf 7))) ∧ Fr w w' (2000 + 2 * n) (2002 + 2 * n)) 2 76) 16 [(0, .ref at9)] [.ref ar]
  refine r_astore_n (q := 17) (lv' := [(1, .ref ar), (0, .ref at9)]) C dX7_ticketRow_16 (by decide) rfl rfl ?_
  refine r_aload_n (q := 18) C 0 dX7_ticketRow_17 rfl rfl ?_
  refine r_lconst (q := 19) C (lN 1) dX7_ticketRow_18 (by decide) rfl ?_
  refine r_iconst (q := 20) C (nI 1) dX7_ticketRow_19 (by decide) rfl ?_
  refine r_callV (q := 23) (t := (2000 + 2 * n)) (As := [.long (lN 1), .int (nI 1)]) (st := []) C koX2 r0 (c_RowWrite (t := 2000 + 2 * n) (n := 0) (wd := 1) (v := lN 1) r0 (by rw [show 2000 + 2 * n + 1 = 2001 + 2 * n by omega]; exact r1) (by decide) (by decide) (by decide)) q333 q330 q331 q332 q18 rfl ⟨by decide, by decide⟩ (show (parseMethodDescriptor yX2_write.desc).map (fun d => d.parameters.length) = some 2 by decide +kernel) (by decide) (by decide) (by decide) (by decide) (Nat.le_of_ble_eq_true rfl) rfl dX7_ticketRow_20 rfl ?_
  clear r0 r1
  rintro v9 w7 ⟨rfl, r0, r1', ef⟩
  have r1 : w7 (2001 + 2 * n) = some (br, aB g 73 (wrF (fun _ => 0) 0 1 1 (lN 1))) := by rw [show 2001 + 2 * n = 2000 + 2 * n + 1 by omega]; exact r1'
  clear r1'
  have k7 : Fr w w7 (2000 + 2 * n) (2002 + 2 * n) := fun u hu => (ef u (by omega)).trans (k5 u hu)
  show V g k 2 w7 2 76 (kQ g k (fun v w' => ∃ ar br nr, v = some (.ref ar) ∧ w' (2000 + 2 * n) = some (ar, ob 2 [.ref br, .int (nI (vf 6 / 86400)), .int nr]) ∧ w' (2001 + 2 * n) = some (br, aB g 73 (tkB (vf 0) (vf 1) (vf 2) (vf 3) (vf 4) (vf 6) (vf 7))) ∧ Fr w w' (2000 + 2 * n) (2002 + 2 * n)) 2 76) 23 [(1, .ref ar), (0, .ref at9)] []
  refine r_aload_n (q := 24) C 0 dX7_ticketRow_23 rfl rfl ?_
  refine r_aload_n (q := 25) C 1 dX7_ticketRow_24 rfl rfl ?_
  refine r_iconst (q := 26) C (nI 0) dX7_ticketRow_25 (by decide) rfl ?_
  refine r_callV (q := 29) (t := t) (As := [.int (nI 0)]) (st := [.ref ar]) C koX6 ((k7 t (by omega)).trans h0) (c_fld_y ((k7 t (by omega)).trans h0) ((k7 (t + 1) (by omega)).trans h1) (i := 0) (by decide)) q312 q309 q310 q311 q17 rfl ⟨by decide, by decide⟩ (show (parseMethodDescriptor yX6_field.desc).map (fun d => d.parameters.length) = some 1 by decide +kernel) (by decide) (by decide) (by decide) (by decide) (Nat.le_of_ble_eq_true rfl) rfl dX7_ticketRow_26 rfl ?_
  rintro v9 w5 ⟨rfl, rfl⟩
  show V g k 2 w7 2 76 (kQ g k (fun v w' => ∃ ar br nr, v = some (.ref ar) ∧ w' (2000 + 2 * n) = some (ar, ob 2 [.ref br, .int (nI (vf 6 / 86400)), .int nr]) ∧ w' (2001 + 2 * n) = some (br, aB g 73 (tkB (vf 0) (vf 1) (vf 2) (vf 3) (vf 4) (vf 6) (vf 7))) ∧ Fr w w' (2000 + 2 * n) (2002 + 2 * n)) 2 76) 29 [(1, .ref ar), (0, .ref at9)] [.long (ff 0), .ref ar]
  refine r_tl (show (ff 0 : Int64) = lN (vf 0) from hv _ (by decide)) ?_
  refine r_iconst (q := 30) C (nI 4) dX7_ticketRow_29 (by decide) rfl ?_
  refine r_callV (q := 33) (t := (2000 + 2 * n)) (As := [.long (lN (vf 0)), .int (nI 4)]) (st := []) C koX2 r0 (c_RowWrite (t := 2000 + 2 * n) (n := 1) (wd := 4) (v := lN (vf 0)) r0 (by rw [show 2000 + 2 * n + 1 = 2001 + 2 * n by omega]; exact r1) (by decide) (by decide) (by decide)) q333 q330 q331 q332 q18 rfl ⟨by decide, by decide⟩ (show (parseMethodDescriptor yX2_write.desc).map (fun d => d.parameters.length) = some 2 by decide +kernel) (by decide) (by decide) (by decide) (by decide) (Nat.le_of_ble_eq_true rfl) rfl dX7_ticketRow_30 rfl ?_
  clear r0 r1
  rintro v9 w8 ⟨rfl, r0, r1', ef⟩
  have r1 : w8 (2001 + 2 * n) = some (br, aB g 73 (wrF (wrF (fun _ => 0) 0 1 1 (lN 1)) 1 4 4 (lN (vf 0)))) := by rw [show 2001 + 2 * n = 2000 + 2 * n + 1 by omega]; exact r1'
  clear r1'
  have k8 : Fr w w8 (2000 + 2 * n) (2002 + 2 * n) := fun u hu => (ef u (by omega)).trans (k7 u hu)
  show V g k 2 w8 2 76 (kQ g k (fun v w' => ∃ ar br nr, v = some (.ref ar) ∧ w' (2000 + 2 * n) = some (ar, ob 2 [.ref br, .int (nI (vf 6 / 86400)), .int nr]) ∧ w' (2001 + 2 * n) = some (br, aB g 73 (tkB (vf 0) (vf 1) (vf 2) (vf 3) (vf 4) (vf 6) (vf 7))) ∧ Fr w w' (2000 + 2 * n) (2002 + 2 * n)) 2 76) 33 [(1, .ref ar), (0, .ref at9)] []
  refine r_aload_n (q := 34) C 0 dX7_ticketRow_33 rfl rfl ?_
  refine r_aload_n (q := 35) C 1 dX7_ticketRow_34 rfl rfl ?_
  refine r_iconst (q := 36) C (nI 1) dX7_ticketRow_35 (by decide) rfl ?_
  refine r_callV (q := 39) (t := t) (As := [.int (nI 1)]) (st := [.ref ar]) C koX6 ((k8 t (by omega)).trans h0) (c_fld_y ((k8 t (by omega)).trans h0) ((k8 (t + 1) (by omega)).trans h1) (i := 1) (by decide)) q312 q309 q310 q311 q17 rfl ⟨by decide, by decide⟩ (show (parseMethodDescriptor yX6_field.desc).map (fun d => d.parameters.length) = some 1 by decide +kernel) (by decide) (by decide) (by decide) (by decide) (Nat.le_of_ble_eq_true rfl) rfl dX7_ticketRow_36 rfl ?_
  rintro v9 w7 ⟨rfl, rfl⟩
  show V g k 2 w8 2 76 (kQ g k (fun v w' => ∃ ar br nr, v = some (.ref ar) ∧ w' (2000 + 2 * n) = some (ar, ob 2 [.ref br, .int (nI (vf 6 / 86400)), .int nr]) ∧ w' (2001 + 2 * n) = some (br, aB g 73 (tkB (vf 0) (vf 1) (vf 2) (vf 3) (vf 4) (vf 6) (vf 7))) ∧ Fr w w' (2000 + 2 * n) (2002 + 2 * n)) 2 76) 39 [(1, .ref ar), (0, .ref at9)] [.long (ff 1), .ref ar]
  refine r_tl (show (ff 1 : Int64) = lN (vf 1) from hv _ (by decide)) ?_
  refine r_iconst (q := 40) C (nI 4) dX7_ticketRow_39 (by decide) rfl ?_
  refine r_callV (q := 43) (t := (2000 + 2 * n)) (As := [.long (lN (vf 1)), .int (nI 4)]) (st := []) C koX2 r0 (c_RowWrite (t := 2000 + 2 * n) (n := 5) (wd := 4) (v := lN (vf 1)) r0 (by rw [show 2000 + 2 * n + 1 = 2001 + 2 * n by omega]; exact r1) (by decide) (by decide) (by decide)) q333 q330 q331 q332 q18 rfl ⟨by decide, by decide⟩ (show (parseMethodDescriptor yX2_write.desc).map (fun d => d.parameters.length) = some 2 by decide +kernel) (by decide) (by decide) (by decide) (by decide) (Nat.le_of_ble_eq_true rfl) rfl dX7_ticketRow_40 rfl ?_
  clear r0 r1
  rintro v9 w9 ⟨rfl, r0, r1', ef⟩
  have r1 : w9 (2001 + 2 * n) = some (br, aB g 73 (wrF (wrF (wrF (fun _ => 0) 0 1 1 (lN 1)) 1 4 4 (lN (vf 0))) 5 4 4 (lN (vf 1)))) := by rw [show 2001 + 2 * n = 2000 + 2 * n + 1 by omega]; exact r1'
  clear r1'
  have k9 : Fr w w9 (2000 + 2 * n) (2002 + 2 * n) := fun u hu => (ef u (by omega)).trans (k8 u hu)
  show V g k 2 w9 2 76 (kQ g k (fun v w' => ∃ ar br nr, v = some (.ref ar) ∧ w' (2000 + 2 * n) = some (ar, ob 2 [.ref br, .int (nI (vf 6 / 86400)), .int nr]) ∧ w' (2001 + 2 * n) = some (br, aB g 73 (tkB (vf 0) (vf 1) (vf 2) (vf 3) (vf 4) (vf 6) (vf 7))) ∧ Fr w w' (2000 + 2 * n) (2002 + 2 * n)) 2 76) 43 [(1, .ref ar), (0, .ref at9)] []
  refine r_aload_n (q := 44) C 0 dX7_ticketRow_43 rfl rfl ?_
  refine r_aload_n (q := 45) C 1 dX7_ticketRow_44 rfl rfl ?_
  refine r_iconst (q := 46) C (nI 2) dX7_ticketRow_45 (by decide) rfl ?_
  refine r_callV (q := 49) (t := t) (As := [.int (nI 2)]) (st := [.ref ar]) C koX6 ((k9 t (by omega)).trans h0) (c_fld_y ((k9 t (by omega)).trans h0) ((k9 (t + 1) (by omega)).trans h1) (i := 2) (by decide)) q312 q309 q310 q311 q17 rfl ⟨by decide, by decide⟩ (show (parseMethodDescriptor yX6_field.desc).map (fun d => d.parameters.length) = some 1 by decide +kernel) (by decide) (by decide) (by decide) (by decide) (Nat.le_of_ble_eq_true rfl) rfl dX7_ticketRow_46 rfl ?_
  rintro v9 w9 ⟨rfl, rfl⟩
  show V g k 2 w9 2 76 (kQ g k (fun v w' => ∃ ar br nr, v = some (.ref ar) ∧ w' (2000 + 2 * n) = some (ar, ob 2 [.ref br, .int (nI (vf 6 / 86400)), .int nr]) ∧ w' (2001 + 2 * n) = some (br, aB g 73 (tkB (vf 0) (vf 1) (vf 2) (vf 3) (vf 4) (vf 6) (vf 7))) ∧ Fr w w' (2000 + 2 * n) (2002 + 2 * n)) 2 76) 49 [(1, .ref ar), (0, .ref at9)] [.long (ff 2), .ref ar]
  refine r_tl (show (ff 2 : Int64) = lN (vf 2) from hv _ (by decide)) ?_
  refine r_iconst (q := 50) C (nI 4) dX7_ticketRow_49 (by decide) rfl ?_
  refine r_callV (q := 53) (t := (2000 + 2 * n)) (As := [.long (lN (vf 2)), .int (nI 4)]) (st := []) C koX2 r0 (c_RowWrite (t := 2000 + 2 * n) (n := 9) (wd := 4) (v := lN (vf 2)) r0 (by rw [show 2000 + 2 * n + 1 = 2001 + 2 * n by omega]; exact r1) (by decide) (by decide) (by decide)) q333 q330 q331 q332 q18 rfl ⟨by decide, by decide⟩ (show (parseMethodDescriptor yX2_write.desc).map (fun d => d.parameters.length) = some 2 by decide +kernel) (by decide) (by decide) (by decide) (by decide) (Nat.le_of_ble_eq_true rfl) rfl dX7_ticketRow_50 rfl ?_
  clear r0 r1
  rintro v9 w10 ⟨rfl, r0, r1', ef⟩
  have r1 : w10 (2001 + 2 * n) = some (br, aB g 73 (wrF (wrF (wrF (wrF (fun _ => 0) 0 1 1 (lN 1)) 1 4 4 (lN (vf 0))) 5 4 4 (lN (vf 1))) 9 4 4 (lN (vf 2)))) := by rw [show 2001 + 2 * n = 2000 + 2 * n + 1 by omega]; exact r1'
  clear r1'
  have k10 : Fr w w10 (2000 + 2 * n) (2002 + 2 * n) := fun u hu => (ef u (by omega)).trans (k9 u hu)
  show V g k 2 w10 2 76 (kQ g k (fun v w' => ∃ ar br nr, v = some (.ref ar) ∧ w' (2000 + 2 * n) = some (ar, ob 2 [.ref br, .int (nI (vf 6 / 86400)), .int nr]) ∧ w' (2001 + 2 * n) = some (br, aB g 73 (tkB (vf 0) (vf 1) (vf 2) (vf 3) (vf 4) (vf 6) (vf 7))) ∧ Fr w w' (2000 + 2 * n) (2002 + 2 * n)) 2 76) 53 [(1, .ref ar), (0, .ref at9)] []
  refine r_aload_n (q := 54) C 0 dX7_ticketRow_53 rfl rfl ?_
  refine r_aload_n (q := 55) C 1 dX7_ticketRow_54 rfl rfl ?_
  refine r_iconst (q := 56) C (nI 3) dX7_ticketRow_55 (by decide) rfl ?_
  refine r_callV (q := 59) (t := t) (As := [.int (nI 3)]) (st := [.ref ar]) C koX6 ((k10 t (by omega)).trans h0) (c_fld_y ((k10 t (by omega)).trans h0) ((k10 (t + 1) (by omega)).trans h1) (i := 3) (by decide)) q312 q309 q310 q311 q17 rfl ⟨by decide, by decide⟩ (show (parseMethodDescriptor yX6_field.desc).map (fun d => d.parameters.length) = some 1 by decide +kernel) (by decide) (by decide) (by decide) (by decide) (Nat.le_of_ble_eq_true rfl) rfl dX7_ticketRow_56 rfl ?_
  rintro v9 w11 ⟨rfl, rfl⟩
  show V g k 2 w10 2 76 (kQ g k (fun v w' => ∃ ar br nr, v = some (.ref ar) ∧ w' (2000 + 2 * n) = some (ar, ob 2 [.ref br, .int (nI (vf 6 / 86400)), .int nr]) ∧ w' (2001 + 2 * n) = some (br, aB g 73 (tkB (vf 0) (vf 1) (vf 2) (vf 3) (vf 4) (vf 6) (vf 7))) ∧ Fr w w' (2000 + 2 * n) (2002 + 2 * n)) 2 76) 59 [(1, .ref ar), (0, .ref at9)] [.long (ff 3), .ref ar]
  refine r_tl (show (ff 3 : Int64) = lN (vf 3) from hv _ (by decide)) ?_
  refine r_bipush (q := 61) C (nI 8) dX7_ticketRow_59 (by decide) rfl ?_
  refine r_callV (q := 64) (t := (2000 + 2 * n)) (As := [.long (lN (vf 3)), .int (nI 8)]) (st := []) C koX2 r0 (c_RowWrite (t := 2000 + 2 * n) (n := 13) (wd := 8) (v := lN (vf 3)) r0 (by rw [show 2000 + 2 * n + 1 = 2001 + 2 * n by omega]; exact r1) (by decide) (by decide) (by decide)) q333 q330 q331 q332 q18 rfl ⟨by decide, by decide⟩ (show (parseMethodDescriptor yX2_write.desc).map (fun d => d.parameters.length) = some 2 by decide +kernel) (by decide) (by decide) (by decide) (by decide) (Nat.le_of_ble_eq_true rfl) rfl dX7_ticketRow_61 rfl ?_
  clear r0 r1
  rintro v9 w11 ⟨rfl, r0, r1', ef⟩
  have r1 : w11 (2001 + 2 * n) = some (br, aB g 73 (wrF (wrF (wrF (wrF (wrF (fun _ => 0) 0 1 1 (lN 1)) 1 4 4 (lN (vf 0))) 5 4 4 (lN (vf 1))) 9 4 4 (lN (vf 2))) 13 8 8 (lN (vf 3)))) := by rw [show 2001 + 2 * n = 2000 + 2 * n + 1 by omega]; exact r1'
  clear r1'
  have k11 : Fr w w11 (2000 + 2 * n) (2002 + 2 * n) := fun u hu => (ef u (by omega)).trans (k10 u hu)
  show V g k 2 w11 2 76 (kQ g k (fun v w' => ∃ ar br nr, v = some (.ref ar) ∧ w' (2000 + 2 * n) = some (ar, ob 2 [.ref br, .int (nI (vf 6 / 86400)), .int nr]) ∧ w' (2001 + 2 * n) = some (br, aB g 73 (tkB (vf 0) (vf 1) (vf 2) (vf 3) (vf 4) (vf 6) (vf 7))) ∧ Fr w w' (2000 + 2 * n) (2002 + 2 * n)) 2 76) 64 [(1, .ref ar), (0, .ref at9)] []
  refine r_aload_n (q := 65) C 0 dX7_ticketRow_64 rfl rfl ?_
  refine r_aload_n (q := 66) C 1 dX7_ticketRow_65 rfl rfl ?_
  refine r_iconst (q := 67) C (nI 4) dX7_ticketRow_66 (by decide) rfl ?_
  refine r_callV (q := 70) (t := t) (As := [.int (nI 4)]) (st := [.ref ar]) C koX6 ((k11 t (by omega)).trans h0) (c_fld_y ((k11 t (by omega)).trans h0) ((k11 (t + 1) (by omega)).trans h1) (i := 4) (by decide)) q312 q309 q310 q311 q17 rfl ⟨by decide, by decide⟩ (show (parseMethodDescriptor yX6_field.desc).map (fun d => d.parameters.length) = some 1 by decide +kernel) (by decide) (by decide) (by decide) (by decide) (Nat.le_of_ble_eq_true rfl) rfl dX7_ticketRow_67 rfl ?_
  rintro v9 w13 ⟨rfl, rfl⟩
  show V g k 2 w11 2 76 (kQ g k (fun v w' => ∃ ar br nr, v = some (.ref ar) ∧ w' (2000 + 2 * n) = some (ar, ob 2 [.ref br, .int (nI (vf 6 / 86400)), .int nr]) ∧ w' (2001 + 2 * n) = some (br, aB g 73 (tkB (vf 0) (vf 1) (vf 2) (vf 3) (vf 4) (vf 6) (vf 7))) ∧ Fr w w' (2000 + 2 * n) (2002 + 2 * n)) 2 76) 70 [(1, .ref ar), (0, .ref at9)] [.long (ff 4), .ref ar]
  refine r_tl (show (ff 4 : Int64) = lN (vf 4) from hv _ (by decide)) ?_
  refine r_bipush (q := 72) C (nI 8) dX7_ticketRow_70 (by decide) rfl ?_
  refine r_callV (q := 75) (t := (2000 + 2 * n)) (As := [.long (lN (vf 4)), .int (nI 8)]) (st := []) C koX2 r0 (c_RowWrite (t := 2000 + 2 * n) (n := 21) (wd := 8) (v := lN (vf 4)) r0 (by rw [show 2000 + 2 * n + 1 = 2001 + 2 * n by omega]; exact r1) (by decide) (by decide) (by decide)) q333 q330 q331 q332 q18 rfl ⟨by decide, by decide⟩ (show (parseMethodDescriptor yX2_write.desc).map (fun d => d.parameters.length) = some 2 by decide +kernel) (by decide) (by decide) (by decide) (by decide) (Nat.le_of_ble_eq_true rfl) rfl dX7_ticketRow_72 rfl ?_
  clear r0 r1
  rintro v9 w12 ⟨rfl, r0, r1', ef⟩
  have r1 : w12 (2001 + 2 * n) = some (br, aB g 73 (wrF (wrF (wrF (wrF (wrF (wrF (fun _ => 0) 0 1 1 (lN 1)) 1 4 4 (lN (vf 0))) 5 4 4 (lN (vf 1))) 9 4 4 (lN (vf 2))) 13 8 8 (lN (vf 3))) 21 8 8 (lN (vf 4)))) := by rw [show 2001 + 2 * n = 2000 + 2 * n + 1 by omega]; exact r1'
  clear r1'
  have k12 : Fr w w12 (2000 + 2 * n) (2002 + 2 * n) := fun u hu => (ef u (by omega)).trans (k11 u hu)
  show V g k 2 w12 2 76 (kQ g k (fun v w' => ∃ ar br nr, v = some (.ref ar) ∧ w' (2000 + 2 * n) = some (ar, ob 2 [.ref br, .int (nI (vf 6 / 86400)), .int nr]) ∧ w' (2001 + 2 * n) = some (br, aB g 73 (tkB (vf 0) (vf 1) (vf 2) (vf 3) (vf 4) (vf 6) (vf 7))) ∧ Fr w w' (2000 + 2 * n) (2002 + 2 * n)) 2 76) 75 [(1, .ref ar), (0, .ref at9)] []
  refine r_aload_n (q := 76) C 0 dX7_ticketRow_75 rfl rfl ?_
  refine r_aload_n (q := 77) C 1 dX7_ticketRow_76 rfl rfl ?_
  refine r_bipush (q := 79) C (nI 6) dX7_ticketRow_77 (by decide) rfl ?_
  refine r_callV (q := 82) (t := t) (As := [.int (nI 6)]) (st := [.ref ar]) C koX6 ((k12 t (by omega)).trans h0) (c_fld_y ((k12 t (by omega)).trans h0) ((k12 (t + 1) (by omega)).trans h1) (i := 6) (by decide)) q312 q309 q310 q311 q17 rfl ⟨by decide, by decide⟩ (show (parseMethodDescriptor yX6_field.desc).map (fun d => d.parameters.length) = some 1 by decide +kernel) (by decide) (by decide) (by decide) (by decide) (Nat.le_of_ble_eq_true rfl) rfl dX7_ticketRow_79 rfl ?_
  rintro v9 w15 ⟨rfl, rfl⟩
  show V g k 2 w12 2 76 (kQ g k (fun v w' => ∃ ar br nr, v = some (.ref ar) ∧ w' (2000 + 2 * n) = some (ar, ob 2 [.ref br, .int (nI (vf 6 / 86400)), .int nr]) ∧ w' (2001 + 2 * n) = some (br, aB g 73 (tkB (vf 0) (vf 1) (vf 2) (vf 3) (vf 4) (vf 6) (vf 7))) ∧ Fr w w' (2000 + 2 * n) (2002 + 2 * n)) 2 76) 82 [(1, .ref ar), (0, .ref at9)] [.long (ff 6), .ref ar]
  refine r_tl (show (ff 6 : Int64) = lN (vf 6) from hv _ (by decide)) ?_
  refine r_bipush (q := 84) C (nI 8) dX7_ticketRow_82 (by decide) rfl ?_
  refine r_callV (q := 87) (t := (2000 + 2 * n)) (As := [.long (lN (vf 6)), .int (nI 8)]) (st := []) C koX2 r0 (c_RowWrite (t := 2000 + 2 * n) (n := 29) (wd := 8) (v := lN (vf 6)) r0 (by rw [show 2000 + 2 * n + 1 = 2001 + 2 * n by omega]; exact r1) (by decide) (by decide) (by decide)) q333 q330 q331 q332 q18 rfl ⟨by decide, by decide⟩ (show (parseMethodDescriptor yX2_write.desc).map (fun d => d.parameters.length) = some 2 by decide +kernel) (by decide) (by decide) (by decide) (by decide) (Nat.le_of_ble_eq_true rfl) rfl dX7_ticketRow_84 rfl ?_
  clear r0 r1
  rintro v9 w13 ⟨rfl, r0, r1', ef⟩
  have r1 : w13 (2001 + 2 * n) = some (br, aB g 73 (wrF (wrF (wrF (wrF (wrF (wrF (wrF (fun _ => 0) 0 1 1 (lN 1)) 1 4 4 (lN (vf 0))) 5 4 4 (lN (vf 1))) 9 4 4 (lN (vf 2))) 13 8 8 (lN (vf 3))) 21 8 8 (lN (vf 4))) 29 8 8 (lN (vf 6)))) := by rw [show 2001 + 2 * n = 2000 + 2 * n + 1 by omega]; exact r1'
  clear r1'
  have k13 : Fr w w13 (2000 + 2 * n) (2002 + 2 * n) := fun u hu => (ef u (by omega)).trans (k12 u hu)
  show V g k 2 w13 2 76 (kQ g k (fun v w' => ∃ ar br nr, v = some (.ref ar) ∧ w' (2000 + 2 * n) = some (ar, ob 2 [.ref br, .int (nI (vf 6 / 86400)), .int nr]) ∧ w' (2001 + 2 * n) = some (br, aB g 73 (tkB (vf 0) (vf 1) (vf 2) (vf 3) (vf 4) (vf 6) (vf 7))) ∧ Fr w w' (2000 + 2 * n) (2002 + 2 * n)) 2 76) 87 [(1, .ref ar), (0, .ref at9)] []
  refine r_aload_n (q := 88) C 0 dX7_ticketRow_87 rfl rfl ?_
  refine r_aload_n (q := 89) C 1 dX7_ticketRow_88 rfl rfl ?_
  refine r_bipush (q := 91) C (nI 7) dX7_ticketRow_89 (by decide) rfl ?_
  refine r_callV (q := 94) (t := t) (As := [.int (nI 7)]) (st := [.ref ar]) C koX6 ((k13 t (by omega)).trans h0) (c_fld_y ((k13 t (by omega)).trans h0) ((k13 (t + 1) (by omega)).trans h1) (i := 7) (by decide)) q312 q309 q310 q311 q17 rfl ⟨by decide, by decide⟩ (show (parseMethodDescriptor yX6_field.desc).map (fun d => d.parameters.length) = some 1 by decide +kernel) (by decide) (by decide) (by decide) (by decide) (Nat.le_of_ble_eq_true rfl) rfl dX7_ticketRow_91 rfl ?_
  rintro v9 w17 ⟨rfl, rfl⟩
  show V g k 2 w13 2 76 (kQ g k (fun v w' => ∃ ar br nr, v = some (.ref ar) ∧ w' (2000 + 2 * n) = some (ar, ob 2 [.ref br, .int (nI (vf 6 / 86400)), .int nr]) ∧ w' (2001 + 2 * n) = some (br, aB g 73 (tkB (vf 0) (vf 1) (vf 2) (vf 3) (vf 4) (vf 6) (vf 7))) ∧ Fr w w' (2000 + 2 * n) (2002 + 2 * n)) 2 76) 94 [(1, .ref ar), (0, .ref at9)] [.long (ff 7), .ref ar]
  refine r_tl (show (ff 7 : Int64) = lN (vf 7) from hv _ (by decide)) ?_
  refine r_iconst (q := 95) C (nI 4) dX7_ticketRow_94 (by decide) rfl ?_
  refine r_callV (q := 98) (t := (2000 + 2 * n)) (As := [.long (lN (vf 7)), .int (nI 4)]) (st := []) C koX2 r0 (c_RowWrite (t := 2000 + 2 * n) (n := 37) (wd := 4) (v := lN (vf 7)) r0 (by rw [show 2000 + 2 * n + 1 = 2001 + 2 * n by omega]; exact r1) (by decide) (by decide) (by decide)) q333 q330 q331 q332 q18 rfl ⟨by decide, by decide⟩ (show (parseMethodDescriptor yX2_write.desc).map (fun d => d.parameters.length) = some 2 by decide +kernel) (by decide) (by decide) (by decide) (by decide) (Nat.le_of_ble_eq_true rfl) rfl dX7_ticketRow_95 rfl ?_
  clear r0 r1
  rintro v9 w14 ⟨rfl, r0, r1', ef⟩
  have r1 : w14 (2001 + 2 * n) = some (br, aB g 73 (wrF (wrF (wrF (wrF (wrF (wrF (wrF (wrF (fun _ => 0) 0 1 1 (lN 1)) 1 4 4 (lN (vf 0))) 5 4 4 (lN (vf 1))) 9 4 4 (lN (vf 2))) 13 8 8 (lN (vf 3))) 21 8 8 (lN (vf 4))) 29 8 8 (lN (vf 6))) 37 4 4 (lN (vf 7)))) := by rw [show 2001 + 2 * n = 2000 + 2 * n + 1 by omega]; exact r1'
  clear r1'
  have k14 : Fr w w14 (2000 + 2 * n) (2002 + 2 * n) := fun u hu => (ef u (by omega)).trans (k13 u hu)
  show V g k 2 w14 2 76 (kQ g k (fun v w' => ∃ ar br nr, v = some (.ref ar) ∧ w' (2000 + 2 * n) = some (ar, ob 2 [.ref br, .int (nI (vf 6 / 86400)), .int nr]) ∧ w' (2001 + 2 * n) = some (br, aB g 73 (tkB (vf 0) (vf 1) (vf 2) (vf 3) (vf 4) (vf 6) (vf 7))) ∧ Fr w w' (2000 + 2 * n) (2002 + 2 * n)) 2 76) 98 [(1, .ref ar), (0, .ref at9)] []
  refine r_aload_n (q := 99) C 0 dX7_ticketRow_98 rfl rfl ?_
  exact r_aret C rfl (Or.inl ⟨_, rfl⟩) (Or.inr ⟨_, rfl⟩) (by decide) (by decide) dX7_ticketRow_99 ⟨_, _, _, rfl, r0, r1, k14⟩

set_option maxHeartbeats 4000000 in
set_option maxRecDepth 20000 in
theorem c_correctionRow {l : Launch} {g : cx_G} {w : wd_T} {at9 atf atw t : Nat} {ff : Nat → Int64} {vf : Nat → Nat} (ht : 1000 ≤ t) (ht2 : t + 2 < 2000) (h0 : w t = some (at9, ob 6 [.ref atf, .ref atw])) (h1 : w (t + 1) = some (atf, aL g 9 ff)) (hv : ∀ i, i < 9 → ff i = lN (vf i)) (hsc : vf 6 ≤ 8000000000) {n : Nat} {fd x ps : Nat} (hfd : fd < 10) (hps : ps < 1000) : Mt l g yX7_correctionRow cX7_correctionRow 6 (some (.object "TicketChain$Row")) 2 2 76 w [.ref at9, .int (nI fd), .long (lN x), .int (nI ps)] (fun v w' => ∃ ar br nr, v = some (.ref ar) ∧ w' (2000 + 2 * n) = some (ar, ob 2 [.ref br, .int (nI (vf 6 / 86400)), .int nr]) ∧ w' (2001 + 2 * n) = some (br, aB g 73 (crB (vf 0) fd x ps)) ∧ Fr w w' (2000 + 2 * n) (2002 + 2 * n)) := by
  refine mt_of RX7 "correctionRow" rfl rfl (by decide) (Nat.le_of_ble_eq_true rfl) [(0, .ref at9), (1, .int (nI fd)), (2, .long (lN x)), (4, .int (nI ps))] rfl ?_
  intro k hkl C hin
  subst hkl
  refine r_new (q := 3) C koX2 q307 q308 q18 (2000 + 2 * n) [.null, .int 0, .int 0] (fun j hj => by rcases (show j = 0 ∨ j = 1 ∨ j = 2 by omega) with rfl | rfl | rfl <;> rfl) (by decide) (by decide) dX7_correctionRow_0 rfl (fun ar => ?_)
  refine r_dup (q := 4) C dX7_correctionRow_3 rfl rfl ?_
  refine r_aload_n (q := 5) C 0 dX7_correctionRow_4 rfl rfl ?_
  refine r_bipush (q := 7) C (nI 6) dX7_correctionRow_5 (by decide) rfl ?_
  refine r_callV (q := 10) (t := t) (As := [.int (nI 6)]) (st := [.ref ar, .ref ar]) C koX6 ((wd_ne (by omega)).trans h0) (c_fld_y ((wd_ne (by omega)).trans h0) ((wd_ne (by omega)).trans h1) (i := 6) (by decide)) q312 q309 q310 q311 q17 rfl ⟨by decide, by decide⟩ (show (parseMethodDescriptor yX6_field.desc).map (fun d => d.parameters.length) = some 1 by decide +kernel) (by decide) (by decide) (by decide) (by decide) (Nat.le_of_ble_eq_true rfl) rfl dX7_correctionRow_7 rfl ?_
  rintro v9 w1 ⟨rfl, rfl⟩
  show V g k 6 (wd_set w (2000 + 2 * n) ar (ob 2 [.null, .int 0, .int 0])) 1 3 (kQ g k (fun v w' => ∃ ar br nr, v = some (.ref ar) ∧ w' (2000 + 2 * n) = some (ar, ob 2 [.ref br, .int (nI (vf 6 / 86400)), .int nr]) ∧ w' (2001 + 2 * n) = some (br, aB g 73 (crB (vf 0) fd x ps)) ∧ Fr w w' (2000 + 2 * n) (2002 + 2 * n)) 2 76) 10 [(0, .ref at9), (1, .int (nI fd)), (2, .long (lN x)), (4, .int (nI ps))] [.long (ff 6), .ref ar, .ref ar]
  refine r_tl (show (ff 6 : Int64) = lN (vf 6) from hv _ (by decide)) ?_
  refine r_callS (q := 13) (As := [.long (lN (vf 6))]) (st := [.ref ar, .ref ar]) C (c_dayOf hsc) q273 q271 q272 q1 ⟨by decide, by decide⟩ (show (parseMethodDescriptor yX7_dayOf.desc).map (fun d => d.parameters.length) = some 1 by decide +kernel) (by decide) (by decide) (by decide) (by decide) (Nat.le_of_ble_eq_true rfl) rfl dX7_correctionRow_10 rfl ?_
  rintro v9 w2 ⟨rfl, rfl⟩
  show V g k 6 (wd_set w (2000 + 2 * n) ar (ob 2 [.null, .int 0, .int 0])) 1 3 (kQ g k (fun v w' => ∃ ar br nr, v = some (.ref ar) ∧ w' (2000 + 2 * n) = some (ar, ob 2 [.ref br, .int (nI (vf 6 / 86400)), .int nr]) ∧ w' (2001 + 2 * n) = some (br, aB g 73 (crB (vf 0) fd x ps)) ∧ Fr w w' (2000 + 2 * n) (2002 + 2 * n)) 2 76) 13 [(0, .ref at9), (1, .int (nI fd)), (2, .long (lN x)), (4, .int (nI ps))] [.int (nI (vf 6 / 86400)), .ref ar, .ref ar]
  refine r_callI (q := 16) (As := [.int (nI (vf 6 / 86400))]) (st := [.ref ar]) C (c_RowInit wd_eq) q316 q314 q315 q18 rfl ⟨by decide, by decide⟩ (show (parseMethodDescriptor yX2_init.desc).map (fun d => d.parameters.length) = some 1 by decide +kernel) (by decide) (by decide) (by decide) (by decide) (Nat.le_of_ble_eq_true rfl) rfl dX7_correctionRow_13 rfl ?_
  rintro v9 w5 ⟨rfl, ⟨br, r0, r1'⟩, ef⟩
  have r1 : w5 (2001 + 2 * n) = some (br, aB g 73 (fun _ => 0)) := by rw [show 2001 + 2 * n = 2000 + 2 * n + 1 by omega]; exact r1'
  clear r1'
  have k5 : Fr w w5 (2000 + 2 * n) (2002 + 2 * n) := fun u hu => (ef u (by omega)).trans (wd_ne (by omega))
  show V g k 6 w5 2 76 (kQ g k (fun v w' => ∃ ar br nr, v = some (.ref ar) ∧ w' (2000 + 2 * n) = some (ar, ob 2 [.ref br, .int (nI (vf 6 / 86400)), .int nr]) ∧ w' (2001 + 2 * n) = some (br, aB g 73 (crB (vf 0) fd x ps)) ∧ Fr w w' (2000 + 2 * n) (2002 + 2 * n)) 2 76) 16 [(0, .ref at9), (1, .int (nI fd)), (2, .long (lN x)), (4, .int (nI ps))] [.ref ar]
  refine r_astore (q := 18) (lv' := [(5, .ref ar), (0, .ref at9), (1, .int (nI fd)), (2, .long (lN x)), (4, .int (nI ps))]) C dX7_correctionRow_16 (by decide) rfl rfl ?_
  refine r_aload (q := 20) C 0 dX7_correctionRow_18 rfl rfl ?_
  refine r_ldc2 (q := 23) (v := lN 2) C dX7_correctionRow_20 q425 rfl ?_
  refine r_iconst (q := 24) C (nI 1) dX7_correctionRow_23 (by decide) rfl ?_
  refine r_callV (q := 27) (t := (2000 + 2 * n)) (As := [.long (lN 2), .int (nI 1)]) (st := []) C koX2 r0 (c_RowWrite (t := 2000 + 2 * n) (n := 0) (wd := 1) (v := lN 2) r0 (by rw [show 2000 + 2 * n + 1 = 2001 + 2 * n by omega]; exact r1) (by decide) (by decide) (by decide)) q333 q330 q331 q332 q18 rfl ⟨by decide, by decide⟩ (show (parseMethodDescriptor yX2_write.desc).map (fun d => d.parameters.length) = some 2 by decide +kernel) (by decide) (by decide) (by decide) (by decide) (Nat.le_of_ble_eq_true rfl) rfl dX7_correctionRow_24 rfl ?_
  clear r0 r1
  rintro v9 w7 ⟨rfl, r0, r1', ef⟩
  have r1 : w7 (2001 + 2 * n) = some (br, aB g 73 (wrF (fun _ => 0) 0 1 1 (lN 2))) := by rw [show 2001 + 2 * n = 2000 + 2 * n + 1 by omega]; exact r1'
  clear r1'
  have k7 : Fr w w7 (2000 + 2 * n) (2002 + 2 * n) := fun u hu => (ef u (by omega)).trans (k5 u hu)
  show V g k 6 w7 2 76 (kQ g k (fun v w' => ∃ ar br nr, v = some (.ref ar) ∧ w' (2000 + 2 * n) = some (ar, ob 2 [.ref br, .int (nI (vf 6 / 86400)), .int nr]) ∧ w' (2001 + 2 * n) = some (br, aB g 73 (crB (vf 0) fd x ps)) ∧ Fr w w' (2000 + 2 * n) (2002 + 2 * n)) 2 76) 27 [(5, .ref ar), (0, .ref at9), (1, .int (nI fd)), (2, .long (lN x)), (4, .int (nI ps))] []
  refine r_aload (q := 29) C 0 dX7_correctionRow_27 rfl rfl ?_
  refine r_aload_n (q := 30) C 1 dX7_correctionRow_29 rfl rfl ?_
  refine r_iconst (q := 31) C (nI 0) dX7_correctionRow_30 (by decide) rfl ?_
  refine r_callV (q := 34) (t := t) (As := [.int (nI 0)]) (st := [.ref ar]) C koX6 ((k7 t (by omega)).trans h0) (c_fld_y ((k7 t (by omega)).trans h0) ((k7 (t + 1) (by omega)).trans h1) (i := 0) (by decide)) q312 q309 q310 q311 q17 rfl ⟨by decide, by decide⟩ (show (parseMethodDescriptor yX6_field.desc).map (fun d => d.parameters.length) = some 1 by decide +kernel) (by decide) (by decide) (by decide) (by decide) (Nat.le_of_ble_eq_true rfl) rfl dX7_correctionRow_31 rfl ?_
  rintro v9 w5 ⟨rfl, rfl⟩
  show V g k 6 w7 2 76 (kQ g k (fun v w' => ∃ ar br nr, v = some (.ref ar) ∧ w' (2000 + 2 * n) = some (ar, ob 2 [.ref br, .int (nI (vf 6 / 86400)), .int nr]) ∧ w' (2001 + 2 * n) = some (br, aB g 73 (crB (vf 0) fd x ps)) ∧ Fr w w' (2000 + 2 * n) (2002 + 2 * n)) 2 76) 34 [(5, .ref ar), (0, .ref at9), (1, .int (nI fd)), (2, .long (lN x)), (4, .int (nI ps))] [.long (ff 0), .ref ar]
  refine r_tl (show (ff 0 : Int64) = lN (vf 0) from hv _ (by decide)) ?_
  refine r_iconst (q := 35) C (nI 4) dX7_correctionRow_34 (by decide) rfl ?_
  refine r_callV (q := 38) (t := (2000 + 2 * n)) (As := [.long (lN (vf 0)), .int (nI 4)]) (st := []) C koX2 r0 (c_RowWrite (t := 2000 + 2 * n) (n := 1) (wd := 4) (v := lN (vf 0)) r0 (by rw [show 2000 + 2 * n + 1 = 2001 + 2 * n by omega]; exact r1) (by decide) (by decide) (by decide)) q333 q330 q331 q332 q18 rfl ⟨by decide, by decide⟩ (show (parseMethodDescriptor yX2_write.desc).map (fun d => d.parameters.length) = some 2 by decide +kernel) (by decide) (by decide) (by decide) (by decide) (Nat.le_of_ble_eq_true rfl) rfl dX7_correctionRow_35 rfl ?_
  clear r0 r1
  rintro v9 w8 ⟨rfl, r0, r1', ef⟩
  have r1 : w8 (2001 + 2 * n) = some (br, aB g 73 (wrF (wrF (fun _ => 0) 0 1 1 (lN 2)) 1 4 4 (lN (vf 0)))) := by rw [show 2001 + 2 * n = 2000 + 2 * n + 1 by omega]; exact r1'
  clear r1'
  have k8 : Fr w w8 (2000 + 2 * n) (2002 + 2 * n) := fun u hu => (ef u (by omega)).trans (k7 u hu)
  show V g k 6 w8 2 76 (kQ g k (fun v w' => ∃ ar br nr, v = some (.ref ar) ∧ w' (2000 + 2 * n) = some (ar, ob 2 [.ref br, .int (nI (vf 6 / 86400)), .int nr]) ∧ w' (2001 + 2 * n) = some (br, aB g 73 (crB (vf 0) fd x ps)) ∧ Fr w w' (2000 + 2 * n) (2002 + 2 * n)) 2 76) 38 [(5, .ref ar), (0, .ref at9), (1, .int (nI fd)), (2, .long (lN x)), (4, .int (nI ps))] []
  refine r_aload (q := 40) C 0 dX7_correctionRow_38 rfl rfl ?_
  refine r_iload_n (q := 41) C 2 dX7_correctionRow_40 rfl rfl ?_
  refine r_i2l (q := 42) C dX7_correctionRow_41 rfl ?_
  refine r_tl (show ((nI fd).toInt64 : Int64) = lN fd from nI_l (by omega)) ?_
  refine r_iconst (q := 43) C (nI 4) dX7_correctionRow_42 (by decide) rfl ?_
  refine r_callV (q := 46) (t := (2000 + 2 * n)) (As := [.long (lN fd), .int (nI 4)]) (st := []) C koX2 r0 (c_RowWrite (t := 2000 + 2 * n) (n := 5) (wd := 4) (v := lN fd) r0 (by rw [show 2000 + 2 * n + 1 = 2001 + 2 * n by omega]; exact r1) (by decide) (by decide) (by decide)) q333 q330 q331 q332 q18 rfl ⟨by decide, by decide⟩ (show (parseMethodDescriptor yX2_write.desc).map (fun d => d.parameters.length) = some 2 by decide +kernel) (by decide) (by decide) (by decide) (by decide) (Nat.le_of_ble_eq_true rfl) rfl dX7_correctionRow_43 rfl ?_
  clear r0 r1
  rintro v9 w9 ⟨rfl, r0, r1', ef⟩
  have r1 : w9 (2001 + 2 * n) = some (br, aB g 73 (wrF (wrF (wrF (fun _ => 0) 0 1 1 (lN 2)) 1 4 4 (lN (vf 0))) 5 4 4 (lN fd))) := by rw [show 2001 + 2 * n = 2000 + 2 * n + 1 by omega]; exact r1'
  clear r1'
  have k9 : Fr w w9 (2000 + 2 * n) (2002 + 2 * n) := fun u hu => (ef u (by omega)).trans (k8 u hu)
  show V g k 6 w9 2 76 (kQ g k (fun v w' => ∃ ar br nr, v = some (.ref ar) ∧ w' (2000 + 2 * n) = some (ar, ob 2 [.ref br, .int (nI (vf 6 / 86400)), .int nr]) ∧ w' (2001 + 2 * n) = some (br, aB g 73 (crB (vf 0) fd x ps)) ∧ Fr w w' (2000 + 2 * n) (2002 + 2 * n)) 2 76) 46 [(5, .ref ar), (0, .ref at9), (1, .int (nI fd)), (2, .long (lN x)), (4, .int (nI ps))] []
  refine r_aload (q := 48) C 0 dX7_correctionRow_46 rfl rfl ?_
  refine r_lload_n (q := 49) C 3 dX7_correctionRow_48 rfl rfl ?_
  refine r_bipush (q := 51) C (nI 8) dX7_correctionRow_49 (by decide) rfl ?_
  refine r_callV (q := 54) (t := (2000 + 2 * n)) (As := [.long (lN x), .int (nI 8)]) (st := []) C koX2 r0 (c_RowWrite (t := 2000 + 2 * n) (n := 9) (wd := 8) (v := lN x) r0 (by rw [show 2000 + 2 * n + 1 = 2001 + 2 * n by omega]; exact r1) (by decide) (by decide) (by decide)) q333 q330 q331 q332 q18 rfl ⟨by decide, by decide⟩ (show (parseMethodDescriptor yX2_write.desc).map (fun d => d.parameters.length) = some 2 by decide +kernel) (by decide) (by decide) (by decide) (by decide) (Nat.le_of_ble_eq_true rfl) rfl dX7_correctionRow_51 rfl ?_
  clear r0 r1
  rintro v9 w10 ⟨rfl, r0, r1', ef⟩
  have r1 : w10 (2001 + 2 * n) = some (br, aB g 73 (wrF (wrF (wrF (wrF (fun _ => 0) 0 1 1 (lN 2)) 1 4 4 (lN (vf 0))) 5 4 4 (lN fd)) 9 8 8 (lN x))) := by rw [show 2001 + 2 * n = 2000 + 2 * n + 1 by omega]; exact r1'
  clear r1'
  have k10 : Fr w w10 (2000 + 2 * n) (2002 + 2 * n) := fun u hu => (ef u (by omega)).trans (k9 u hu)
  show V g k 6 w10 2 76 (kQ g k (fun v w' => ∃ ar br nr, v = some (.ref ar) ∧ w' (2000 + 2 * n) = some (ar, ob 2 [.ref br, .int (nI (vf 6 / 86400)), .int nr]) ∧ w' (2001 + 2 * n) = some (br, aB g 73 (crB (vf 0) fd x ps)) ∧ Fr w w' (2000 + 2 * n) (2002 + 2 * n)) 2 76) 54 [(5, .ref ar), (0, .ref at9), (1, .int (nI fd)), (2, .long (lN x)), (4, .int (nI ps))] []
  refine r_aload (q := 56) C 0 dX7_correctionRow_54 rfl rfl ?_
  refine r_iload (q := 58) C 4 dX7_correctionRow_56 rfl rfl ?_
  refine r_i2l (q := 59) C dX7_correctionRow_58 rfl ?_
  refine r_tl (show ((nI ps).toInt64 : Int64) = lN ps from nI_l (by omega)) ?_
  refine r_iconst (q := 60) C (nI 4) dX7_correctionRow_59 (by decide) rfl ?_
  refine r_callV (q := 63) (t := (2000 + 2 * n)) (As := [.long (lN ps), .int (nI 4)]) (st := []) C koX2 r0 (c_RowWrite (t := 2000 + 2 * n) (n := 17) (wd := 4) (v := lN ps) r0 (by rw [show 2000 + 2 * n + 1 = 2001 + 2 * n by omega]; exact r1) (by decide) (by decide) (by decide)) q333 q330 q331 q332 q18 rfl ⟨by decide, by decide⟩ (show (parseMethodDescriptor yX2_write.desc).map (fun d => d.parameters.length) = some 2 by decide +kernel) (by decide) (by decide) (by decide) (by decide) (Nat.le_of_ble_eq_true rfl) rfl dX7_correctionRow_60 rfl ?_
  clear r0 r1
  rintro v9 w11 ⟨rfl, r0, r1', ef⟩
  have r1 : w11 (2001 + 2 * n) = some (br, aB g 73 (wrF (wrF (wrF (wrF (wrF (fun _ => 0) 0 1 1 (lN 2)) 1 4 4 (lN (vf 0))) 5 4 4 (lN fd)) 9 8 8 (lN x)) 17 4 4 (lN ps))) := by rw [show 2001 + 2 * n = 2000 + 2 * n + 1 by omega]; exact r1'
  clear r1'
  have k11 : Fr w w11 (2000 + 2 * n) (2002 + 2 * n) := fun u hu => (ef u (by omega)).trans (k10 u hu)
  show V g k 6 w11 2 76 (kQ g k (fun v w' => ∃ ar br nr, v = some (.ref ar) ∧ w' (2000 + 2 * n) = some (ar, ob 2 [.ref br, .int (nI (vf 6 / 86400)), .int nr]) ∧ w' (2001 + 2 * n) = some (br, aB g 73 (crB (vf 0) fd x ps)) ∧ Fr w w' (2000 + 2 * n) (2002 + 2 * n)) 2 76) 63 [(5, .ref ar), (0, .ref at9), (1, .int (nI fd)), (2, .long (lN x)), (4, .int (nI ps))] []
  refine r_aload (q := 65) C 0 dX7_correctionRow_63 rfl rfl ?_
  exact r_aret C rfl (Or.inl ⟨_, rfl⟩) (Or.inr ⟨_, rfl⟩) (by decide) (by decide) dX7_correctionRow_65 ⟨_, _, _, rfl, r0, r1, k11⟩

set_option maxHeartbeats 4000000 in
set_option maxRecDepth 20000 in
theorem c_voidRow {l : Launch} {g : cx_G} {w : wd_T} {at9 atf atw t : Nat} {ff : Nat → Int64} {vf : Nat → Nat} (ht : 1000 ≤ t) (ht2 : t + 2 < 2000) (h0 : w t = some (at9, ob 6 [.ref atf, .ref atw])) (h1 : w (t + 1) = some (atf, aL g 9 ff)) (hv : ∀ i, i < 9 → ff i = lN (vf i)) (hsc : vf 6 ≤ 8000000000) {n : Nat} {rs : Nat} (hrs : rs < 100) : Mt l g yX7_voidRow cX7_voidRow 3 (some (.object "TicketChain$Row")) 2 2 76 w [.ref at9, .int (nI rs)] (fun v w' => ∃ ar br nr, v = some (.ref ar) ∧ w' (2000 + 2 * n) = some (ar, ob 2 [.ref br, .int (nI (vf 6 / 86400)), .int nr]) ∧ w' (2001 + 2 * n) = some (br, aB g 73 (vdR (vf 0) rs)) ∧ Fr w w' (2000 + 2 * n) (2002 + 2 * n)) := by
  refine mt_of RX7 "voidRow" rfl rfl (by decide) (Nat.le_of_ble_eq_true rfl) [(0, .ref at9), (1, .int (nI rs))] rfl ?_
  intro k hkl C hin
  subst hkl
  refine r_new (q := 3) C koX2 q307 q308 q18 (2000 + 2 * n) [.null, .int 0, .int 0] (fun j hj => by rcases (show j = 0 ∨ j = 1 ∨ j = 2 by omega) with rfl | rfl | rfl <;> rfl) (by decide) (by decide) dX7_voidRow_0 rfl (fun ar => ?_)
  refine r_dup (q := 4) C dX7_voidRow_3 rfl rfl ?_
  refine r_aload_n (q := 5) C 0 dX7_voidRow_4 rfl rfl ?_
  refine r_bipush (q := 7) C (nI 6) dX7_voidRow_5 (by decide) rfl ?_
  refine r_callV (q := 10) (t := t) (As := [.int (nI 6)]) (st := [.ref ar, .ref ar]) C koX6 ((wd_ne (by omega)).trans h0) (c_fld_y ((wd_ne (by omega)).trans h0) ((wd_ne (by omega)).trans h1) (i := 6) (by decide)) q312 q309 q310 q311 q17 rfl ⟨by decide, by decide⟩ (show (parseMethodDescriptor yX6_field.desc).map (fun d => d.parameters.length) = some 1 by decide +kernel) (by decide) (by decide) (by decide) (by decide) (Nat.le_of_ble_eq_true rfl) rfl dX7_voidRow_7 rfl ?_
  rintro v9 w1 ⟨rfl, rfl⟩
  show V g k 3 (wd_set w (2000 + 2 * n) ar (ob 2 [.null, .int 0, .int 0])) 1 3 (kQ g k (fun v w' => ∃ ar br nr, v = some (.ref ar) ∧ w' (2000 + 2 * n) = some (ar, ob 2 [.ref br, .int (nI (vf 6 / 86400)), .int nr]) ∧ w' (2001 + 2 * n) = some (br, aB g 73 (vdR (vf 0) rs)) ∧ Fr w w' (2000 + 2 * n) (2002 + 2 * n)) 2 76) 10 [(0, .ref at9), (1, .int (nI rs))] [.long (ff 6), .ref ar, .ref ar]
  refine r_tl (show (ff 6 : Int64) = lN (vf 6) from hv _ (by decide)) ?_
  refine r_callS (q := 13) (As := [.long (lN (vf 6))]) (st := [.ref ar, .ref ar]) C (c_dayOf hsc) q273 q271 q272 q1 ⟨by decide, by decide⟩ (show (parseMethodDescriptor yX7_dayOf.desc).map (fun d => d.parameters.length) = some 1 by decide +kernel) (by decide) (by decide) (by decide) (by decide) (Nat.le_of_ble_eq_true rfl) rfl dX7_voidRow_10 rfl ?_
  rintro v9 w2 ⟨rfl, rfl⟩
  show V g k 3 (wd_set w (2000 + 2 * n) ar (ob 2 [.null, .int 0, .int 0])) 1 3 (kQ g k (fun v w' => ∃ ar br nr, v = some (.ref ar) ∧ w' (2000 + 2 * n) = some (ar, ob 2 [.ref br, .int (nI (vf 6 / 86400)), .int nr]) ∧ w' (2001 + 2 * n) = some (br, aB g 73 (vdR (vf 0) rs)) ∧ Fr w w' (2000 + 2 * n) (2002 + 2 * n)) 2 76) 13 [(0, .ref at9), (1, .int (nI rs))] [.int (nI (vf 6 / 86400)), .ref ar, .ref ar]
  refine r_callI (q := 16) (As := [.int (nI (vf 6 / 86400))]) (st := [.ref ar]) C (c_RowInit wd_eq) q316 q314 q315 q18 rfl ⟨by decide, by decide⟩ (show (parseMethodDescriptor yX2_init.desc).map (fun d => d.parameters.length) = some 1 by decide +kernel) (by decide) (by decide) (by decide) (by decide) (Nat.le_of_ble_eq_true rfl) rfl dX7_voidRow_13 rfl ?_
  rintro v9 w5 ⟨rfl, ⟨br, r0, r1'⟩, ef⟩
  have r1 : w5 (2001 + 2 * n) = some (br, aB g 73 (fun _ => 0)) := by rw [show 2001 + 2 * n = 2000 + 2 * n + 1 by omega]; exact r1'
  clear r1'
  have k5 : Fr w w5 (2000 + 2 * n) (2002 + 2 * n) := fun u hu => (ef u (by omega)).trans (wd_ne (by omega))
  show V g k 3 w5 2 76 (kQ g k (fun v w' => ∃ ar br nr, v = some (.ref ar) ∧ w' (2000 + 2 * n) = some (ar, ob 2 [.ref br, .int (nI (vf 6 / 86400)), .int nr]) ∧ w' (2001 + 2 * n) = some (br, aB g 73 (vdR (vf 0) rs)) ∧ Fr w w' (2000 + 2 * n) (2002 + 2 * n)) 2 76) 16 [(0, .ref at9), (1, .int (nI rs))] [.ref ar]
  refine r_astore_n (q := 17) (lv' := [(2, .ref ar), (0, .ref at9), (1, .int (nI rs))]) C dX7_voidRow_16 (by decide) rfl rfl ?_
  refine r_aload_n (q := 18) C 0 dX7_voidRow_17 rfl rfl ?_
  refine r_ldc2 (q := 21) (v := lN 3) C dX7_voidRow_18 q433 rfl ?_
  refine r_iconst (q := 22) C (nI 1) dX7_voidRow_21 (by decide) rfl ?_
  refine r_callV (q := 25) (t := (2000 + 2 * n)) (As := [.long (lN 3), .int (nI 1)]) (st := []) C koX2 r0 (c_RowWrite (t := 2000 + 2 * n) (n := 0) (wd := 1) (v := lN 3) r0 (by rw [show 2000 + 2 * n + 1 = 2001 + 2 * n by omega]; exact r1) (by decide) (by decide) (by decide)) q333 q330 q331 q332 q18 rfl ⟨by decide, by decide⟩ (show (parseMethodDescriptor yX2_write.desc).map (fun d => d.parameters.length) = some 2 by decide +kernel) (by decide) (by decide) (by decide) (by decide) (Nat.le_of_ble_eq_true rfl) rfl dX7_voidRow_22 rfl ?_
  clear r0 r1
  rintro v9 w7 ⟨rfl, r0, r1', ef⟩
  have r1 : w7 (2001 + 2 * n) = some (br, aB g 73 (wrF (fun _ => 0) 0 1 1 (lN 3))) := by rw [show 2001 + 2 * n = 2000 + 2 * n + 1 by omega]; exact r1'
  clear r1'
  have k7 : Fr w w7 (2000 + 2 * n) (2002 + 2 * n) := fun u hu => (ef u (by omega)).trans (k5 u hu)
  show V g k 3 w7 2 76 (kQ g k (fun v w' => ∃ ar br nr, v = some (.ref ar) ∧ w' (2000 + 2 * n) = some (ar, ob 2 [.ref br, .int (nI (vf 6 / 86400)), .int nr]) ∧ w' (2001 + 2 * n) = some (br, aB g 73 (vdR (vf 0) rs)) ∧ Fr w w' (2000 + 2 * n) (2002 + 2 * n)) 2 76) 25 [(2, .ref ar), (0, .ref at9), (1, .int (nI rs))] []
  refine r_aload_n (q := 26) C 0 dX7_voidRow_25 rfl rfl ?_
  refine r_aload_n (q := 27) C 1 dX7_voidRow_26 rfl rfl ?_
  refine r_iconst (q := 28) C (nI 0) dX7_voidRow_27 (by decide) rfl ?_
  refine r_callV (q := 31) (t := t) (As := [.int (nI 0)]) (st := [.ref ar]) C koX6 ((k7 t (by omega)).trans h0) (c_fld_y ((k7 t (by omega)).trans h0) ((k7 (t + 1) (by omega)).trans h1) (i := 0) (by decide)) q312 q309 q310 q311 q17 rfl ⟨by decide, by decide⟩ (show (parseMethodDescriptor yX6_field.desc).map (fun d => d.parameters.length) = some 1 by decide +kernel) (by decide) (by decide) (by decide) (by decide) (Nat.le_of_ble_eq_true rfl) rfl dX7_voidRow_28 rfl ?_
  rintro v9 w5 ⟨rfl, rfl⟩
  show V g k 3 w7 2 76 (kQ g k (fun v w' => ∃ ar br nr, v = some (.ref ar) ∧ w' (2000 + 2 * n) = some (ar, ob 2 [.ref br, .int (nI (vf 6 / 86400)), .int nr]) ∧ w' (2001 + 2 * n) = some (br, aB g 73 (vdR (vf 0) rs)) ∧ Fr w w' (2000 + 2 * n) (2002 + 2 * n)) 2 76) 31 [(2, .ref ar), (0, .ref at9), (1, .int (nI rs))] [.long (ff 0), .ref ar]
  refine r_tl (show (ff 0 : Int64) = lN (vf 0) from hv _ (by decide)) ?_
  refine r_iconst (q := 32) C (nI 4) dX7_voidRow_31 (by decide) rfl ?_
  refine r_callV (q := 35) (t := (2000 + 2 * n)) (As := [.long (lN (vf 0)), .int (nI 4)]) (st := []) C koX2 r0 (c_RowWrite (t := 2000 + 2 * n) (n := 1) (wd := 4) (v := lN (vf 0)) r0 (by rw [show 2000 + 2 * n + 1 = 2001 + 2 * n by omega]; exact r1) (by decide) (by decide) (by decide)) q333 q330 q331 q332 q18 rfl ⟨by decide, by decide⟩ (show (parseMethodDescriptor yX2_write.desc).map (fun d => d.parameters.length) = some 2 by decide +kernel) (by decide) (by decide) (by decide) (by decide) (Nat.le_of_ble_eq_true rfl) rfl dX7_voidRow_32 rfl ?_
  clear r0 r1
  rintro v9 w8 ⟨rfl, r0, r1', ef⟩
  have r1 : w8 (2001 + 2 * n) = some (br, aB g 73 (wrF (wrF (fun _ => 0) 0 1 1 (lN 3)) 1 4 4 (lN (vf 0)))) := by rw [show 2001 + 2 * n = 2000 + 2 * n + 1 by omega]; exact r1'
  clear r1'
  have k8 : Fr w w8 (2000 + 2 * n) (2002 + 2 * n) := fun u hu => (ef u (by omega)).trans (k7 u hu)
  show V g k 3 w8 2 76 (kQ g k (fun v w' => ∃ ar br nr, v = some (.ref ar) ∧ w' (2000 + 2 * n) = some (ar, ob 2 [.ref br, .int (nI (vf 6 / 86400)), .int nr]) ∧ w' (2001 + 2 * n) = some (br, aB g 73 (vdR (vf 0) rs)) ∧ Fr w w' (2000 + 2 * n) (2002 + 2 * n)) 2 76) 35 [(2, .ref ar), (0, .ref at9), (1, .int (nI rs))] []
  refine r_aload_n (q := 36) C 0 dX7_voidRow_35 rfl rfl ?_
  refine r_iload_n (q := 37) C 2 dX7_voidRow_36 rfl rfl ?_
  refine r_i2l (q := 38) C dX7_voidRow_37 rfl ?_
  refine r_tl (show ((nI rs).toInt64 : Int64) = lN rs from nI_l (by omega)) ?_
  refine r_iconst (q := 39) C (nI 4) dX7_voidRow_38 (by decide) rfl ?_
  refine r_callV (q := 42) (t := (2000 + 2 * n)) (As := [.long (lN rs), .int (nI 4)]) (st := []) C koX2 r0 (c_RowWrite (t := 2000 + 2 * n) (n := 5) (wd := 4) (v := lN rs) r0 (by rw [show 2000 + 2 * n + 1 = 2001 + 2 * n by omega]; exact r1) (by decide) (by decide) (by decide)) q333 q330 q331 q332 q18 rfl ⟨by decide, by decide⟩ (show (parseMethodDescriptor yX2_write.desc).map (fun d => d.parameters.length) = some 2 by decide +kernel) (by decide) (by decide) (by decide) (by decide) (Nat.le_of_ble_eq_true rfl) rfl dX7_voidRow_39 rfl ?_
  clear r0 r1
  rintro v9 w9 ⟨rfl, r0, r1', ef⟩
  have r1 : w9 (2001 + 2 * n) = some (br, aB g 73 (wrF (wrF (wrF (fun _ => 0) 0 1 1 (lN 3)) 1 4 4 (lN (vf 0))) 5 4 4 (lN rs))) := by rw [show 2001 + 2 * n = 2000 + 2 * n + 1 by omega]; exact r1'
  clear r1'
  have k9 : Fr w w9 (2000 + 2 * n) (2002 + 2 * n) := fun u hu => (ef u (by omega)).trans (k8 u hu)
  show V g k 3 w9 2 76 (kQ g k (fun v w' => ∃ ar br nr, v = some (.ref ar) ∧ w' (2000 + 2 * n) = some (ar, ob 2 [.ref br, .int (nI (vf 6 / 86400)), .int nr]) ∧ w' (2001 + 2 * n) = some (br, aB g 73 (vdR (vf 0) rs)) ∧ Fr w w' (2000 + 2 * n) (2002 + 2 * n)) 2 76) 42 [(2, .ref ar), (0, .ref at9), (1, .int (nI rs))] []
  refine r_aload_n (q := 43) C 0 dX7_voidRow_42 rfl rfl ?_
  exact r_aret C rfl (Or.inl ⟨_, rfl⟩) (Or.inr ⟨_, rfl⟩) (by decide) (by decide) dX7_voidRow_43 ⟨_, _, _, rfl, r0, r1, k9⟩
