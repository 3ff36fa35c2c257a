/-! TareBook: what is known of tares -/
theorem r_castS {g : cx_G} {k : kx_T} {own : String} {cc : ByteArray} {nL : Nat} {rt : Option FieldType} {d mc ms : Nat} {w : wd_T} {cells slots : Nat} {Q : State → Prop} {pc q : Nat} {lv : List (Nat × Value)} {st : List Value} (C : Cx g k own cc nL rt d mc ms) {ci N t a ix : Nat} {CN nm : String} {T : u_T} {ty : Nat → FieldType} {fs : List Value} (KK : KO ci CN T N ty) (ht : w t = some (a, ob ci fs)) (hlink : Cond.classLink own ix nm ∈ GW) (hnm : nm = CN) (dg : decode cc pc = .ok (.checkcast ix, 3)) (e : pc + 3 = q) (kk : V g k nL w cells slots Q q lv (.ref a :: st)) : V g k nL w cells slots Q pc lv (.ref a :: st) := by
  subst e hnm
  intro H locs ls ⟨ws, hP, hD, hw, hS⟩ h2 h3
  obtain ⟨i9, hi9⟩ := hw.1 _ _ _ ht
  have hk := C.2.2.2.2.2.2.1.1
  exact va_castS C.1 C.2.1 C.2.2.2.1 (C.2.2.2.2.1 _ hlink) (hk.1 ci _ KK.1).2 (va_recv (q0 := i9) hk hP KK.1 hi9) dg (kk H locs ls ⟨ws, hP, hD, hw, hS⟩ h2 h3)
/-- the last tare of a vehicle up to a day, among the first n -/
def lu9 (tD tV : Nat → Int32) (dy vh : Int32) : Nat → Option Nat
  | 0 => none
  | n + 1 => if tV n = vh ∧ tD n ≤ dy ∧ (lu9 tD tV dy vh n).all (fun k => decide (tD k < tD n)) = true then some n else lu9 tD tV dy vh n
theorem lu9_lt {tD tV : Nat → Int32} {dy vh : Int32} : ∀ n k, lu9 tD tV dy vh n = some k → k < n ∧ tV k = vh ∧ tD k ≤ dy
  | 0, _, h => by cases h
  | n + 1, k, h => by
    rw [lu9] at h
    split at h
    · rename_i c
      cases h
      exact ⟨Nat.lt_succ_self _, c.1, c.2.1⟩
    · have := lu9_lt n k h
      exact ⟨by omega, this.2⟩
/-- the book, its list and the tares in it: tags 101, 120 .., 3000 .. -/
def BkAt (g : cx_G) (w : wd_T) (a1 al n : Nat) (el : Nat → Nat) (tD tV tT : Nat → Int32) : Prop :=
  w 101 = some (a1, ob 5 [.ref al]) ∧ LsAt g w 120 al n el (fun j => 3000 + j) ∧ ∀ j, j < n → w (3000 + j) = some (el j, ob 4 [.int (tD j), .int (tV j), .long (tT j).toInt64])
set_option maxHeartbeats 4000000 in
set_option maxRecDepth 20000 in
theorem c_lastUpTo {l : Launch} {g : cx_G} {w : wd_T} {a1 al n : Nat} {el : Nat → Nat} {tD tV tT : Nat → Int32} (hb : BkAt g w a1 al n el tD tV tT) (hn : n ≤ 200) {dy vh : Int32} : Mt l g yX5_lastUpTo cX5_lastUpTo 6 (some (.object "TicketChain$Tare")) 3 0 0 w [.ref a1, .int dy, .int vh] (fun v w' => v = some (va_rf ((lu9 tD tV dy vh n).map el)) ∧ w = w') := by
  refine mt_of RX5 "lastUpTo" rfl rfl (by decide) (Nat.le_of_ble_eq_true rfl) [(0, .ref a1), (1, .int dy), (2, .int vh)] rfl ?_
  intro k hkl C hin
  subst hkl
  obtain ⟨m9, ae, hls⟩ := (hb.2.1).get
  refine r_null (q := 1) C dX5_lastUpTo_0 rfl ?_
  refine r_astore_nN (q := 2) (lv' := [(3, .null), (0, .ref a1), (1, .int dy), (2, .int vh)]) C dX5_lastUpTo_1 (by decide) rfl rfl ?_
  refine r_iconst (q := 3) C (nI 0) dX5_lastUpTo_2 (by decide) rfl ?_
  refine r_istore (q := 5) (lv' := [(4, .int (nI 0)), (3, .null), (0, .ref a1), (1, .int dy), (2, .int vh)]) C dX5_lastUpTo_3 (by decide) rfl rfl ?_
  refine r_sub (lv' := [(4, .int (nI 0)), (3, .null), (0, .ref a1), (1, .int dy), (2, .int vh)]) [0, 1, 2, 3, 4] rfl ?_
  have loop : ∀ (r i : Nat) (o9 : Option Nat) , i + r = n → (o9 = lu9 tD tV dy vh i) → V g k 6 w 0 0 (kQ g k (fun v w' => v = some (va_rf ((lu9 tD tV dy vh n).map el)) ∧ w = w') 0 0) 5 [(4, .int (nI i)), (3, va_rf (o9.map el)), (0, .ref a1), (1, .int dy), (2, .int vh)] [] := by
    intro r
    induction r with
    | zero =>
      intro i o9  hi ho
      cases o9 with
      | none =>
        show V g k 6 w 0 0 (kQ g k (fun v w' => v = some (va_rf ((lu9 tD tV dy vh n).map el)) ∧ w = w') 0 0) 5 [(4, .int (nI i)), (3, .null), (0, .ref a1), (1, .int dy), (2, .int vh)] []
        refine r_iload (q := 7) C 0 dX5_lastUpTo_5 rfl rfl ?_
        refine r_aload_n (q := 8) C 2 dX5_lastUpTo_7 rfl rfl ?_
        refine r_get (q := 11) (t := 101) C koX5 hb.1 0 (by decide) q67 rfl rfl dX5_lastUpTo_8 rfl ?_
        refine r_callV (q := 14) (t := 120) (As := []) (st := [.int (nI i)]) C koJx4a65c hls (c_ALsize hb.2.1) q175 q172 q173 q174 q5 rfl ⟨by decide, by decide⟩ (show (parseMethodDescriptor yJx4a65c_size_8abf5.desc).map (fun d => d.parameters.length) = some 0 by decide +kernel) (by decide) (by decide) (by decide) (by decide) (Nat.le_of_ble_eq_true rfl) rfl dX5_lastUpTo_11 rfl ?_
        rintro v9 w1 ⟨rfl, rfl⟩
        show V g k 6 w 0 0 (kQ g k (fun v w' => v = some (va_rf ((lu9 tD tV dy vh n).map el)) ∧ w = w') 0 0) 14 [(4, .int (nI i)), (3, .null), (0, .ref a1), (1, .int dy), (2, .int vh)] [.int (nI n), .int (nI i)]
        refine r_icmp_ge_t (tgt := 74) C dX5_lastUpTo_14 (by decide) ((nI_leI (a := n) (b := i) (by omega) (by omega)).mpr (by omega)) ?_
        refine r_aload_nN (q := 75) C 1 dX5_lastUpTo_74 rfl rfl ?_
        obtain rfl : i = n := by omega
        exact r_aret C rfl (Or.inl ⟨_, rfl⟩) (Or.inl rfl) (by decide) (by decide) dX5_lastUpTo_75 ⟨by rw [← ho]; rfl, rfl⟩
      | some k7 =>
        show V g k 6 w 0 0 (kQ g k (fun v w' => v = some (va_rf ((lu9 tD tV dy vh n).map el)) ∧ w = w') 0 0) 5 [(4, .int (nI i)), (3, .ref (el k7)), (0, .ref a1), (1, .int dy), (2, .int vh)] []
        refine r_iload (q := 7) C 0 dX5_lastUpTo_5 rfl rfl ?_
        refine r_aload_n (q := 8) C 2 dX5_lastUpTo_7 rfl rfl ?_
        refine r_get (q := 11) (t := 101) C koX5 hb.1 0 (by decide) q67 rfl rfl dX5_lastUpTo_8 rfl ?_
        refine r_callV (q := 14) (t := 120) (As := []) (st := [.int (nI i)]) C koJx4a65c hls (c_ALsize hb.2.1) q175 q172 q173 q174 q5 rfl ⟨by decide, by decide⟩ (show (parseMethodDescriptor yJx4a65c_size_8abf5.desc).map (fun d => d.parameters.length) = some 0 by decide +kernel) (by decide) (by decide) (by decide) (by decide) (Nat.le_of_ble_eq_true rfl) rfl dX5_lastUpTo_11 rfl ?_
        rintro v9 w1 ⟨rfl, rfl⟩
        show V g k 6 w 0 0 (kQ g k (fun v w' => v = some (va_rf ((lu9 tD tV dy vh n).map el)) ∧ w = w') 0 0) 14 [(4, .int (nI i)), (3, .ref (el k7)), (0, .ref a1), (1, .int dy), (2, .int vh)] [.int (nI n), .int (nI i)]
        refine r_icmp_ge_t (tgt := 74) C dX5_lastUpTo_14 (by decide) ((nI_leI (a := n) (b := i) (by omega) (by omega)).mpr (by omega)) ?_
        refine r_aload_n (q := 75) C 1 dX5_lastUpTo_74 rfl rfl ?_
        obtain rfl : i = n := by omega
        exact r_aret C rfl (Or.inl ⟨_, rfl⟩) (Or.inr ⟨_, rfl⟩) (by decide) (by decide) dX5_lastUpTo_75 ⟨by rw [← ho]; rfl, rfl⟩
    | succ r ih =>
      intro i o9  hi ho
      cases o9 with
      | none =>
        show V g k 6 w 0 0 (kQ g k (fun v w' => v = some (va_rf ((lu9 tD tV dy vh n).map el)) ∧ w = w') 0 0) 5 [(4, .int (nI i)), (3, .null), (0, .ref a1), (1, .int dy), (2, .int vh)] []
        refine r_iload (q := 7) C 0 dX5_lastUpTo_5 rfl rfl ?_
        refine r_aload_n (q := 8) C 2 dX5_lastUpTo_7 rfl rfl ?_
        refine r_get (q := 11) (t := 101) C koX5 hb.1 0 (by decide) q67 rfl rfl dX5_lastUpTo_8 rfl ?_
        refine r_callV (q := 14) (t := 120) (As := []) (st := [.int (nI i)]) C koJx4a65c hls (c_ALsize hb.2.1) q175 q172 q173 q174 q5 rfl ⟨by decide, by decide⟩ (show (parseMethodDescriptor yJx4a65c_size_8abf5.desc).map (fun d => d.parameters.length) = some 0 by decide +kernel) (by decide) (by decide) (by decide) (by decide) (Nat.le_of_ble_eq_true rfl) rfl dX5_lastUpTo_11 rfl ?_
        rintro v9 w2 ⟨rfl, rfl⟩
        show V g k 6 w 0 0 (kQ g k (fun v w' => v = some (va_rf ((lu9 tD tV dy vh n).map el)) ∧ w = w') 0 0) 14 [(4, .int (nI i)), (3, .null), (0, .ref a1), (1, .int dy), (2, .int vh)] [.int (nI n), .int (nI i)]
        refine r_icmp_ge_f (q := 17) (tgt := 74) C dX5_lastUpTo_14 (by decide) rfl (fun z => absurd ((nI_leI (a := n) (b := i) (by omega) (by omega)).mp z) (by omega)) ?_
        refine r_aload_n (q := 18) C 2 dX5_lastUpTo_17 rfl rfl ?_
        refine r_get (q := 21) (t := 101) C koX5 hb.1 0 (by decide) q67 rfl rfl dX5_lastUpTo_18 rfl ?_
        refine r_iload (q := 23) C 0 dX5_lastUpTo_21 rfl rfl ?_
        refine r_callV (q := 26) (t := 120) (As := [.int (nI i)]) (st := []) C koJx4a65c hls (c_ALget hb.2.1 (by omega) (by omega)) q179 q176 q177 q178 q5 rfl ⟨by decide, by decide⟩ (show (parseMethodDescriptor yJx4a65c_get_915e3.desc).map (fun d => d.parameters.length) = some 1 by decide +kernel) (by decide) (by decide) (by decide) (by decide) (Nat.le_of_ble_eq_true rfl) rfl dX5_lastUpTo_23 rfl ?_
        rintro v9 w3 ⟨rfl, rfl⟩
        show V g k 6 w 0 0 (kQ g k (fun v w' => v = some (va_rf ((lu9 tD tV dy vh n).map el)) ∧ w = w') 0 0) 26 [(4, .int (nI i)), (3, .null), (0, .ref a1), (1, .int dy), (2, .int vh)] [.ref (el i)]
        refine r_castS (q := 29) (t := (3000 + i)) C koX4 (hb.2.2 i (by omega)) q190 rfl dX5_lastUpTo_26 rfl ?_
        refine r_astore (q := 31) (lv' := [(5, .ref (el i)), (4, .int (nI i)), (3, .null), (0, .ref a1), (1, .int dy), (2, .int vh)]) C dX5_lastUpTo_29 (by decide) rfl rfl ?_
        refine r_aload (q := 33) C 0 dX5_lastUpTo_31 rfl rfl ?_
        refine r_getN (q := 36) (t := (3000 + i)) C koX4 (hb.2.2 i (by omega)) 1 (by decide) q199 rfl rfl dX5_lastUpTo_33 rfl ?_
        refine r_iload_n (q := 37) C 5 dX5_lastUpTo_36 rfl rfl ?_
        refine r_icmp_ne (q := 40) (tgt := 68) C dX5_lastUpTo_37 (by decide) rfl (fun hc4 => ?_) (fun hc4 => ?_)
        · refine r_iinc (q := 71) (v := nI (i + 1)) (lv' := [(4, .int (nI (i + 1))), (5, .ref (el i)), (3, .null), (0, .ref a1), (1, .int dy), (2, .int vh)]) C 1 dX5_lastUpTo_68 rfl (nI_1 i) (by decide) rfl rfl ?_
          refine r_goto (tgt := 5) C dX5_lastUpTo_71 (by decide) ?_
          refine r_sub (lv' := [(4, .int (nI (i + 1))), (3, .null), (0, .ref a1), (1, .int dy), (2, .int vh)]) [0, 2, 3, 4, 5] rfl ?_
          exact ih (i + 1) (none) (by omega) (by rw [lu9, if_neg (fun z => absurd z.1 hc4)]; exact ho)
        · refine r_aload (q := 42) C 0 dX5_lastUpTo_40 rfl rfl ?_
          refine r_getN (q := 45) (t := (3000 + i)) C koX4 (hb.2.2 i (by omega)) 0 (by decide) q197 rfl rfl dX5_lastUpTo_42 rfl ?_
          refine r_iload_n (q := 46) C 4 dX5_lastUpTo_45 rfl rfl ?_
          refine r_icmp_gt (q := 49) (tgt := 68) C dX5_lastUpTo_46 (by decide) rfl (fun hc7 => ?_) (fun hc7 => ?_)
          · refine r_iinc (q := 71) (v := nI (i + 1)) (lv' := [(4, .int (nI (i + 1))), (5, .ref (el i)), (3, .null), (0, .ref a1), (1, .int dy), (2, .int vh)]) C 1 dX5_lastUpTo_68 rfl (nI_1 i) (by decide) rfl rfl ?_
            refine r_goto (tgt := 5) C dX5_lastUpTo_71 (by decide) ?_
            refine r_sub (lv' := [(4, .int (nI (i + 1))), (3, .null), (0, .ref a1), (1, .int dy), (2, .int vh)]) [0, 2, 3, 4, 5] rfl ?_
            exact ih (i + 1) (none) (by omega) (by rw [lu9, if_neg (fun z => absurd z.2.1 (Int32.not_le.mpr hc7))]; exact ho)
          · refine r_aload_nN (q := 50) C 2 dX5_lastUpTo_49 rfl rfl ?_
            refine r_ifnullN (tgt := 65) C dX5_lastUpTo_50 (by decide) ?_
            refine r_aload (q := 67) C 0 dX5_lastUpTo_65 rfl rfl ?_
            refine r_astore_n (q := 68) (lv' := [(3, .ref (el i)), (5, .ref (el i)), (4, .int (nI i)), (0, .ref a1), (1, .int dy), (2, .int vh)]) C dX5_lastUpTo_67 (by decide) rfl rfl ?_
            refine r_iinc (q := 71) (v := nI (i + 1)) (lv' := [(4, .int (nI (i + 1))), (3, .ref (el i)), (5, .ref (el i)), (0, .ref a1), (1, .int dy), (2, .int vh)]) C 2 dX5_lastUpTo_68 rfl (nI_1 i) (by decide) rfl rfl ?_
            refine r_goto (tgt := 5) C dX5_lastUpTo_71 (by decide) ?_
            refine r_sub (lv' := [(4, .int (nI (i + 1))), (3, .ref (el i)), (0, .ref a1), (1, .int dy), (2, .int vh)]) [0, 1, 3, 4, 5] rfl ?_
            exact ih (i + 1) (some i) (by omega) (by rw [lu9, if_pos ⟨hc4, Int32.not_lt.mp hc7, by rw [← ho]; rfl⟩])
      | some k7 =>
        show V g k 6 w 0 0 (kQ g k (fun v w' => v = some (va_rf ((lu9 tD tV dy vh n).map el)) ∧ w = w') 0 0) 5 [(4, .int (nI i)), (3, .ref (el k7)), (0, .ref a1), (1, .int dy), (2, .int vh)] []
        have hk := lu9_lt i k7 ho.symm
        refine r_iload (q := 7) C 0 dX5_lastUpTo_5 rfl rfl ?_
        refine r_aload_n (q := 8) C 2 dX5_lastUpTo_7 rfl rfl ?_
        refine r_get (q := 11) (t := 101) C koX5 hb.1 0 (by decide) q67 rfl rfl dX5_lastUpTo_8 rfl ?_
        refine r_callV (q := 14) (t := 120) (As := []) (st := [.int (nI i)]) C koJx4a65c hls (c_ALsize hb.2.1) q175 q172 q173 q174 q5 rfl ⟨by decide, by decide⟩ (show (parseMethodDescriptor yJx4a65c_size_8abf5.desc).map (fun d => d.parameters.length) = some 0 by decide +kernel) (by decide) (by decide) (by decide) (by decide) (Nat.le_of_ble_eq_true rfl) rfl dX5_lastUpTo_11 rfl ?_
        rintro v9 w10 ⟨rfl, rfl⟩
        show V g k 6 w 0 0 (kQ g k (fun v w' => v = some (va_rf ((lu9 tD tV dy vh n).map el)) ∧ w = w') 0 0) 14 [(4, .int (nI i)), (3, .ref (el k7)), (0, .ref a1), (1, .int dy), (2, .int vh)] [.int (nI n), .int (nI i)]
        refine r_icmp_ge_f (q := 17) (tgt := 74) C dX5_lastUpTo_14 (by decide) rfl (fun z => absurd ((nI_leI (a := n) (b := i) (by omega) (by omega)).mp z) (by omega)) ?_
        refine r_aload_n (q := 18) C 2 dX5_lastUpTo_17 rfl rfl ?_
        refine r_get (q := 21) (t := 101) C koX5 hb.1 0 (by decide) q67 rfl rfl dX5_lastUpTo_18 rfl ?_
        refine r_iload (q := 23) C 0 dX5_lastUpTo_21 rfl rfl ?_
        refine r_callV (q := 26) (t := 120) (As := [.int (nI i)]) (st := []) C koJx4a65c hls (c_ALget hb.2.1 (by omega) (by omega)) q179 q176 q177 q178 q5 rfl ⟨by decide, by decide⟩ (show (parseMethodDescriptor yJx4a65c_get_915e3.desc).map (fun d => d.parameters.length) = some 1 by decide +kernel) (by decide) (by decide) (by decide) (by decide) (Nat.le_of_ble_eq_true rfl) rfl dX5_lastUpTo_23 rfl ?_
        rintro v9 w11 ⟨rfl, rfl⟩
        show V g k 6 w 0 0 (kQ g k (fun v w' => v = some (va_rf ((lu9 tD tV dy vh n).map el)) ∧ w = w') 0 0) 26 [(4, .int (nI i)), (3, .ref (el k7)), (0, .ref a1), (1, .int dy), (2, .int vh)] [.ref (el i)]
        refine r_castS (q := 29) (t := (3000 + i)) C koX4 (hb.2.2 i (by omega)) q190 rfl dX5_lastUpTo_26 rfl ?_
        refine r_astore (q := 31) (lv' := [(5, .ref (el i)), (4, .int (nI i)), (3, .ref (el k7)), (0, .ref a1), (1, .int dy), (2, .int vh)]) C dX5_lastUpTo_29 (by decide) rfl rfl ?_
        refine r_aload (q := 33) C 0 dX5_lastUpTo_31 rfl rfl ?_
        refine r_getN (q := 36) (t := (3000 + i)) C koX4 (hb.2.2 i (by omega)) 1 (by decide) q199 rfl rfl dX5_lastUpTo_33 rfl ?_
        refine r_iload_n (q := 37) C 5 dX5_lastUpTo_36 rfl rfl ?_
        refine r_icmp_ne (q := 40) (tgt := 68) C dX5_lastUpTo_37 (by decide) rfl (fun hc12 => ?_) (fun hc12 => ?_)
        · refine r_iinc (q := 71) (v := nI (i + 1)) (lv' := [(4, .int (nI (i + 1))), (5, .ref (el i)), (3, .ref (el k7)), (0, .ref a1), (1, .int dy), (2, .int vh)]) C 1 dX5_lastUpTo_68 rfl (nI_1 i) (by decide) rfl rfl ?_
          refine r_goto (tgt := 5) C dX5_lastUpTo_71 (by decide) ?_
          refine r_sub (lv' := [(4, .int (nI (i + 1))), (3, .ref (el k7)), (0, .ref a1), (1, .int dy), (2, .int vh)]) [0, 2, 3, 4, 5] rfl ?_
          exact ih (i + 1) (some k7) (by omega) (by rw [lu9, if_neg (fun z => absurd z.1 hc12)]; exact ho)
        · refine r_aload (q := 42) C 0 dX5_lastUpTo_40 rfl rfl ?_
          refine r_getN (q := 45) (t := (3000 + i)) C koX4 (hb.2.2 i (by omega)) 0 (by decide) q197 rfl rfl dX5_lastUpTo_42 rfl ?_
          refine r_iload_n (q := 46) C 4 dX5_lastUpTo_45 rfl rfl ?_
          refine r_icmp_gt (q := 49) (tgt := 68) C dX5_lastUpTo_46 (by decide) rfl (fun hc15 => ?_) (fun hc15 => ?_)
          · refine r_iinc (q := 71) (v := nI (i + 1)) (lv' := [(4, .int (nI (i + 1))), (5, .ref (el i)), (3, .ref (el k7)), (0, .ref a1), (1, .int dy), (2, .int vh)]) C 1 dX5_lastUpTo_68 rfl (nI_1 i) (by decide) rfl rfl ?_
            refine r_goto (tgt := 5) C dX5_lastUpTo_71 (by decide) ?_
            refine r_sub (lv' := [(4, .int (nI (i + 1))), (3, .ref (el k7)), (0, .ref a1), (1, .int dy), (2, .int vh)]) [0, 2, 3, 4, 5] rfl ?_
            exact ih (i + 1) (some k7) (by omega) (by rw [lu9, if_neg (fun z => absurd z.2.1 (Int32.not_le.mpr hc15))]; exact ho)
          · refine r_aload_n (q := 50) C 2 dX5_lastUpTo_49 rfl rfl ?_
            refine r_ifnull (q := 53) C dX5_lastUpTo_50 rfl ?_
            refine r_aload (q := 55) C 0 dX5_lastUpTo_53 rfl rfl ?_
            refine r_getN (q := 58) (t := (3000 + i)) C koX4 (hb.2.2 i (by omega)) 0 (by decide) q197 rfl rfl dX5_lastUpTo_55 rfl ?_
            refine r_aload_n (q := 59) C 2 dX5_lastUpTo_58 rfl rfl ?_
            refine r_getN (q := 62) (t := (3000 + k7)) C koX4 (hb.2.2 k7 (by omega)) 0 (by decide) q197 rfl rfl dX5_lastUpTo_59 rfl ?_
            refine r_icmp_le (q := 65) (tgt := 68) C dX5_lastUpTo_62 (by decide) rfl (fun hc18 => ?_) (fun hc18 => ?_)
            · refine r_iinc (q := 71) (v := nI (i + 1)) (lv' := [(4, .int (nI (i + 1))), (5, .ref (el i)), (3, .ref (el k7)), (0, .ref a1), (1, .int dy), (2, .int vh)]) C 1 dX5_lastUpTo_68 rfl (nI_1 i) (by decide) rfl rfl ?_
              refine r_goto (tgt := 5) C dX5_lastUpTo_71 (by decide) ?_
              refine r_sub (lv' := [(4, .int (nI (i + 1))), (3, .ref (el k7)), (0, .ref a1), (1, .int dy), (2, .int vh)]) [0, 2, 3, 4, 5] rfl ?_
              exact ih (i + 1) (some k7) (by omega) (by rw [lu9, if_neg (fun z => by have q := z.2.2; rw [← ho] at q; exact absurd (of_decide_eq_true q) (Int32.not_lt.mpr hc18))]; exact ho)
            · refine r_aload (q := 67) C 0 dX5_lastUpTo_65 rfl rfl ?_
              refine r_astore_n (q := 68) (lv' := [(3, .ref (el i)), (5, .ref (el i)), (4, .int (nI i)), (0, .ref a1), (1, .int dy), (2, .int vh)]) C dX5_lastUpTo_67 (by decide) rfl rfl ?_
              refine r_iinc (q := 71) (v := nI (i + 1)) (lv' := [(4, .int (nI (i + 1))), (3, .ref (el i)), (5, .ref (el i)), (0, .ref a1), (1, .int dy), (2, .int vh)]) C 2 dX5_lastUpTo_68 rfl (nI_1 i) (by decide) rfl rfl ?_
              refine r_goto (tgt := 5) C dX5_lastUpTo_71 (by decide) ?_
              refine r_sub (lv' := [(4, .int (nI (i + 1))), (3, .ref (el i)), (0, .ref a1), (1, .int dy), (2, .int vh)]) [0, 1, 3, 4, 5] rfl ?_
              exact ih (i + 1) (some i) (by omega) (by rw [lu9, if_pos ⟨hc12, Int32.not_lt.mp hc15, by rw [← ho]; exact decide_eq_true (Int32.not_le.mp hc18)⟩])
  exact loop n 0 none (by omega) rfl

set_option maxHeartbeats 4000000 in
set_option maxRecDepth 20000 in
theorem c_tareOn_n {l : Launch} {g : cx_G} {w : wd_T} {a1 al n : Nat} {el : Nat → Nat} {tD tV tT : Nat → Int32} (hb : BkAt g w a1 al n el tD tV tT) (hn : n ≤ 200) {dy vh : Int32} (h9 : lu9 tD tV dy vh n = none) : Mt l g yX5_tareOn cX5_tareOn 4 (some .long) 4 0 0 w [.ref a1, .int dy, .int vh] (fun v w' => v = some (.long ((-1))) ∧ w = w') := by
  refine mt_of RX5 "tareOn" rfl rfl (by decide) (Nat.le_of_ble_eq_true rfl) [(0, .ref a1), (1, .int dy), (2, .int vh)] rfl ?_
  intro k hkl C hin
  subst hkl
  refine r_aload_n (q := 1) C 0 dX5_tareOn_0 rfl rfl ?_
  refine r_iload_n (q := 2) C 1 dX5_tareOn_1 rfl rfl ?_
  refine r_iload_n (q := 3) C 2 dX5_tareOn_2 rfl rfl ?_
  refine r_callV (q := 6) (t := 101) (As := [.int dy, .int vh]) (st := []) C koX5 hb.1 (c_lastUpTo hb hn) q171 q168 q170 qp0 q2 rfl ⟨by decide, by decide⟩ (show (parseMethodDescriptor yX5_lastUpTo.desc).map (fun d => d.parameters.length) = some 2 by decide +kernel) (by decide) (by decide) (by decide) (by decide) (Nat.le_of_ble_eq_true rfl) rfl dX5_tareOn_3 rfl ?_
  rintro v9 w1 ⟨rfl, rfl⟩
  show V g k 4 w 0 0 (kQ g k (fun v w' => v = some (.long ((-1))) ∧ w = w') 0 0) 6 [(0, .ref a1), (1, .int dy), (2, .int vh)] [va_rf ((lu9 tD tV dy vh n).map el)]
  refine r_tv (show (va_rf ((lu9 tD tV dy vh n).map el) : Value) = .null from (by rw [h9]; rfl)) ?_
  refine r_astore_nN (q := 7) (lv' := [(3, .null), (0, .ref a1), (1, .int dy), (2, .int vh)]) C dX5_tareOn_6 (by decide) rfl rfl ?_
  refine r_aload_nN (q := 8) C 0 dX5_tareOn_7 rfl rfl ?_
  refine r_ifnonnullN (q := 11) C dX5_tareOn_8 rfl ?_
  refine r_ldc2 (q := 14) (v := (-1)) C dX5_tareOn_11 q279 rfl ?_
  refine r_goto (tgt := 21) C dX5_tareOn_14 (by decide) ?_
  exact r_lret C rfl (by decide) (by decide) dX5_tareOn_21 ⟨rfl, rfl⟩

set_option maxHeartbeats 4000000 in
set_option maxRecDepth 20000 in
theorem c_tareOn_y {l : Launch} {g : cx_G} {w : wd_T} {a1 al n : Nat} {el : Nat → Nat} {tD tV tT : Nat → Int32} (hb : BkAt g w a1 al n el tD tV tT) (hn : n ≤ 200) {dy vh : Int32} {k9 : Nat} (h9 : lu9 tD tV dy vh n = some k9) : Mt l g yX5_tareOn cX5_tareOn 4 (some .long) 4 0 0 w [.ref a1, .int dy, .int vh] (fun v w' => v = some (.long ((tT k9).toInt64)) ∧ w = w') := by
  refine mt_of RX5 "tareOn" rfl rfl (by decide) (Nat.le_of_ble_eq_true rfl) [(0, .ref a1), (1, .int dy), (2, .int vh)] rfl ?_
  intro k hkl C hin
  subst hkl
  have hk := lu9_lt n k9 h9
  refine r_aload_n (q := 1) C 0 dX5_tareOn_0 rfl rfl ?_
  refine r_iload_n (q := 2) C 1 dX5_tareOn_1 rfl rfl ?_
  refine r_iload_n (q := 3) C 2 dX5_tareOn_2 rfl rfl ?_
  refine r_callV (q := 6) (t := 101) (As := [.int dy, .int vh]) (st := []) C koX5 hb.1 (c_lastUpTo hb hn) q171 q168 q170 qp0 q2 rfl ⟨by decide, by decide⟩ (show (parseMethodDescriptor yX5_lastUpTo.desc).map (fun d => d.parameters.length) = some 2 by decide +kernel) (by decide) (by decide) (by decide) (by decide) (Nat.le_of_ble_eq_true rfl) rfl dX5_tareOn_3 rfl ?_
  rintro v9 w1 ⟨rfl, rfl⟩
  show V g k 4 w 0 0 (kQ g k (fun v w' => v = some (.long ((tT k9).toInt64)) ∧ w = w') 0 0) 6 [(0, .ref a1), (1, .int dy), (2, .int vh)] [va_rf ((lu9 tD tV dy vh n).map el)]
  refine r_tv (show (va_rf ((lu9 tD tV dy vh n).map el) : Value) = .ref (el k9) from (by rw [h9]; rfl)) ?_
  refine r_astore_n (q := 7) (lv' := [(3, .ref (el k9)), (0, .ref a1), (1, .int dy), (2, .int vh)]) C dX5_tareOn_6 (by decide) rfl rfl ?_
  refine r_aload_n (q := 8) C 0 dX5_tareOn_7 rfl rfl ?_
  refine r_ifnonnull (tgt := 17) C dX5_tareOn_8 (by decide) ?_
  refine r_aload_n (q := 18) C 0 dX5_tareOn_17 rfl rfl ?_
  refine r_getN (q := 21) (t := (3000 + k9)) C koX4 (hb.2.2 k9 (by omega)) 2 (by decide) q201 rfl rfl dX5_tareOn_18 rfl ?_
  exact r_lret C rfl (by decide) (by decide) dX5_tareOn_21 ⟨rfl, rfl⟩

set_option maxHeartbeats 4000000 in
set_option maxRecDepth 20000 in
theorem c_BookInit {l : Launch} {g : cx_G} {w : wd_T} {a1 : Nat} (h0 : w 101 = some (a1, ob 5 [.null])) : Mt l g yX5_init cX5_init 1 none 4 1 3 w [.ref a1] (fun v w' => v = none ∧ (∃ al, w' 101 = some (a1, ob 5 [.ref al]) ∧ LsAt g w' 120 al 0 (fun _ => 0) (fun j => 3000 + j)) ∧ Fr w w' 101 121) := by
  refine mt_of RX5 "<init>" rfl rfl (by decide) (Nat.le_of_ble_eq_true rfl) [(0, .ref a1)] rfl ?_
  intro k hkl C hin
  subst hkl
  refine r_aload_n (q := 1) C 0 dX5_init_0 rfl rfl ?_
  refine r_objI (q := 4) C q40 q33 q34 (by decide) (Nat.le_of_ble_eq_true rfl) dX5_init_1 rfl ?_
  refine r_aload_n (q := 5) C 0 dX5_init_4 rfl rfl ?_
  refine r_new (q := 8) C koJx4a65c q41 q42 q5 120 [.int 0, .null, .int 0] (fun j hj => by rcases (show j = 0 ∨ j = 1 ∨ j = 2 by omega) with rfl | rfl | rfl <;> rfl) (by decide) (by decide) dX5_init_5 rfl (fun al => ?_)
  refine r_dup (q := 9) C dX5_init_8 rfl rfl ?_
  refine r_callI (q := 12) (As := []) (st := [.ref al, .ref a1]) C (c_ALinit (el := fun _ => 0) (tg := fun j => 3000 + j) wd_eq) q45 q43 q44 q5 rfl ⟨by decide, by decide⟩ (show (parseMethodDescriptor yJx4a65c_init_da8c8.desc).map (fun d => d.parameters.length) = some 0 by decide +kernel) (by decide) (by decide) (by decide) (by decide) (Nat.le_of_ble_eq_true rfl) rfl dX5_init_9 rfl ?_
  rintro v9 w2 ⟨rfl, hl, ef1⟩
  show V g k 1 w2 1 3 (kQ g k (fun v w' => v = none ∧ (∃ al, w' 101 = some (a1, ob 5 [.ref al]) ∧ LsAt g w' 120 al 0 (fun _ => 0) (fun j => 3000 + j)) ∧ Fr w w' 101 121) 1 3) 12 [(0, .ref a1)] [.ref al, .ref a1]
  refine r_putF (q := 15) (t := 101) (w' := wd_set w2 101 a1 (ob 5 [.ref al])) C koX5 ((ef1 101 (by omega)).trans ((wd_ne (by decide)).trans h0)) 0 (by decide) q67 rfl rfl hin rfl rfl rfl (Nat.le_of_ble_eq_true rfl) dX5_init_12 rfl rfl ?_
  refine r_vret C rfl (by decide) (by decide) dX5_init_15 ⟨rfl, ⟨al, wd_eq, hl.kept (wd_ne (by decide)) (wd_ne (by decide)) (fun j hj => absurd hj (Nat.not_lt_zero j))⟩, fun t ht => ?_⟩
  rw [wd_ne (by omega), ef1 t (by omega), wd_ne (by omega)]

set_option maxHeartbeats 4000000 in
set_option maxRecDepth 20000 in
theorem c_tell_y {l : Launch} {g : cx_G} {w : wd_T} {a1 al n : Nat} {el : Nat → Nat} {tD tV tT : Nat → Int32} (hb : BkAt g w a1 al n el tD tV tT) (hn : n ≤ 200) {dy vh wt : Int32} {k9 : Nat} (h9 : lu9 tD tV dy vh n = some k9) (hd9 : tD k9 = dy) : Mt l g yX5_tell cX5_tell 6 (some .boolean) 7 2 463 w [.ref a1, .int dy, .int vh, .long wt.toInt64] (fun v w' => v = some (.int (nI 1)) ∧ (∃ el', BkAt g w' a1 al n el' tD tV (upd tT k9 wt)) ∧ (∀ t, t ≠ 101 → (t < 120 ∨ 123 ≤ t) → (t < 3000 ∨ 3200 < t) → w' t = w t)) := by
  refine mt_of RX5 "tell" rfl rfl (by decide) (Nat.le_of_ble_eq_true rfl) [(0, .ref a1), (1, .int dy), (2, .int vh), (3, .long wt.toInt64)] rfl ?_
  intro k hkl C hin
  subst hkl
  have hk := lu9_lt n k9 h9
  refine r_aload_n (q := 1) C 0 dX5_tell_0 rfl rfl ?_
  refine r_iload_n (q := 2) C 1 dX5_tell_1 rfl rfl ?_
  refine r_iload_n (q := 3) C 2 dX5_tell_2 rfl rfl ?_
  refine r_callV (q := 6) (t := 101) (As := [.int dy, .int vh]) (st := []) C koX5 hb.1 (c_lastUpTo hb hn) q171 q168 q170 qp0 q2 rfl ⟨by decide, by decide⟩ (show (parseMethodDescriptor yX5_lastUpTo.desc).map (fun d => d.parameters.length) = some 2 by decide +kernel) (by decide) (by decide) (by decide) (by decide) (Nat.le_of_ble_eq_true rfl) rfl dX5_tell_3 rfl ?_
  rintro v9 w1 ⟨rfl, rfl⟩
  show V g k 6 w 0 0 (kQ g k (fun v w' => v = some (.int (nI 1)) ∧ (∃ el', BkAt g w' a1 al n el' tD tV (upd tT k9 wt)) ∧ (∀ t, t ≠ 101 → (t < 120 ∨ 123 ≤ t) → (t < 3000 ∨ 3200 < t) → w' t = w t)) 2 463) 6 [(0, .ref a1), (1, .int dy), (2, .int vh), (3, .long wt.toInt64)] [va_rf ((lu9 tD tV dy vh n).map el)]
  refine r_tv (show (va_rf ((lu9 tD tV dy vh n).map el) : Value) = .ref (el k9) from (by rw [h9]; rfl)) ?_
  refine r_astore (q := 8) (lv' := [(5, .ref (el k9)), (0, .ref a1), (1, .int dy), (2, .int vh), (3, .long wt.toInt64)]) C dX5_tell_6 (by decide) rfl rfl ?_
  refine r_aload (q := 10) C 0 dX5_tell_8 rfl rfl ?_
  refine r_ifnull (q := 13) C dX5_tell_10 rfl ?_
  refine r_aload (q := 15) C 0 dX5_tell_13 rfl rfl ?_
  refine r_getN (q := 18) (t := (3000 + k9)) C koX4 (hb.2.2 k9 (by omega)) 0 (by decide) q197 rfl rfl dX5_tell_15 rfl ?_
  refine r_iload_n (q := 19) C 2 dX5_tell_18 rfl rfl ?_
  refine r_icmp_ne_f (q := 22) (tgt := 30) C dX5_tell_19 (by decide) rfl (hd9) ?_
  refine r_aload (q := 24) C 0 dX5_tell_22 rfl rfl ?_
  refine r_lload_n (q := 25) C 4 dX5_tell_24 rfl rfl ?_
  refine r_putN (q := 28) (t := (3000 + k9)) (w' := wd_set w (3000 + k9) (el k9) (ob 4 [.int (tD k9), .int (tV k9), .long wt.toInt64])) C koX4 (hb.2.2 k9 (by omega)) 2 (by decide) q201 rfl rfl rfl rfl (Nat.le_of_ble_eq_true rfl) dX5_tell_25 rfl rfl ?_
  refine r_iconst (q := 29) C (nI 1) dX5_tell_28 (by decide) rfl ?_
  refine r_zret C rfl rfl (by decide) (by decide) dX5_tell_29 ⟨rfl, ⟨el, (wd_ne (by omega)).trans hb.1, hb.2.1.kept (wd_ne (by omega)) (wd_ne (by omega)) (fun j hj h => ?_), fun j hj => ?_⟩, fun t h1 h2 h3 => wd_ne (by omega)⟩
  · by_cases z : j = k9
    · subst z; exact ⟨4, 3, _, _, _, _, wd_eq, koX4, q940⟩
    · exact h.kept (wd_ne (by omega))
  · by_cases z : j = k9
    · subst z; rw [pk_us]; exact wd_eq
    · rw [pk_un z]; exact (wd_ne (by omega)).trans (hb.2.2 j hj)

set_option maxHeartbeats 4000000 in
set_option maxRecDepth 20000 in
theorem c_tell_n {l : Launch} {g : cx_G} {w : wd_T} {a1 al n : Nat} {el : Nat → Nat} {tD tV tT : Nat → Int32} (hb : BkAt g w a1 al n el tD tV tT) (hn : n ≤ 200) {dy vh wt : Int32} (h9 : ∀ k, lu9 tD tV dy vh n = some k → tD k ≠ dy) : Mt l g yX5_tell cX5_tell 6 (some .boolean) 7 2 463 w [.ref a1, .int dy, .int vh, .long wt.toInt64] (fun v w' => v = some (.int (nI 1)) ∧ (∃ el', BkAt g w' a1 al (n + 1) el' (upd tD n dy) (upd tV n vh) (upd tT n wt)) ∧ (∀ t, t ≠ 101 → (t < 120 ∨ 123 ≤ t) → (t < 3000 ∨ 3200 < t) → w' t = w t)) := by
  refine mt_of RX5 "tell" rfl rfl (by decide) (Nat.le_of_ble_eq_true rfl) [(0, .ref a1), (1, .int dy), (2, .int vh), (3, .long wt.toInt64)] rfl ?_
  intro k hkl C hin
  subst hkl
  obtain ⟨m9, ae, hls⟩ := (hb.2.1).get
  have fin : V g k 6 w 0 0 (kQ g k (fun v w' => v = some (.int (nI 1)) ∧ (∃ el', BkAt g w' a1 al (n + 1) el' (upd tD n dy) (upd tV n vh) (upd tT n wt)) ∧ (∀ t, t ≠ 101 → (t < 120 ∨ 123 ≤ t) → (t < 3000 ∨ 3200 < t) → w' t = w t)) 2 463) 30 [(0, .ref a1), (1, .int dy), (2, .int vh), (3, .long wt.toInt64)] [] := by
    refine r_aload_n (q := 31) C 0 dX5_tell_30 rfl rfl ?_
    refine r_get (q := 34) (t := 101) C koX5 hb.1 0 (by decide) q67 rfl rfl dX5_tell_31 rfl ?_
    refine r_callV (q := 37) (t := 120) (As := []) (st := []) C koJx4a65c hls (c_ALsize hb.2.1) q175 q172 q173 q174 q5 rfl ⟨by decide, by decide⟩ (show (parseMethodDescriptor yJx4a65c_size_8abf5.desc).map (fun d => d.parameters.length) = some 0 by decide +kernel) (by decide) (by decide) (by decide) (by decide) (Nat.le_of_ble_eq_true rfl) rfl dX5_tell_34 rfl ?_
    rintro v9 w1 ⟨rfl, rfl⟩
    show V g k 6 w 0 0 (kQ g k (fun v w' => v = some (.int (nI 1)) ∧ (∃ el', BkAt g w' a1 al (n + 1) el' (upd tD n dy) (upd tV n vh) (upd tT n wt)) ∧ (∀ t, t ≠ 101 → (t < 120 ∨ 123 ≤ t) → (t < 3000 ∨ 3200 < t) → w' t = w t)) 2 463) 37 [(0, .ref a1), (1, .int dy), (2, .int vh), (3, .long wt.toInt64)] [.int (nI n)]
    refine r_sipush (q := 40) C (nI 512) dX5_tell_37 (by decide) rfl ?_
    refine r_icmp_lt_t (tgt := 45) C dX5_tell_40 (by decide) ((nI_ltI (a := n) (b := 512) (by omega) (by omega)).mpr (by omega)) ?_
    refine r_aload_n (q := 46) C 0 dX5_tell_45 rfl rfl ?_
    refine r_get (q := 49) (t := 101) C koX5 hb.1 0 (by decide) q67 rfl rfl dX5_tell_46 rfl ?_
    refine r_new (q := 52) C koX4 q190 q191 q12 (3000 + n) [.int 0, .int 0, .long 0] (fun j hj => by rcases (show j = 0 ∨ j = 1 ∨ j = 2 by omega) with rfl | rfl | rfl <;> rfl) (by decide) (by decide) dX5_tell_49 rfl (fun at9 => ?_)
    refine r_dup (q := 53) C dX5_tell_52 rfl rfl ?_
    refine r_iload_n (q := 54) C 1 dX5_tell_53 rfl rfl ?_
    refine r_iload_n (q := 55) C 2 dX5_tell_54 rfl rfl ?_
    refine r_lload_n (q := 56) C 3 dX5_tell_55 rfl rfl ?_
    refine r_callI (q := 59) (As := [.int dy, .int vh, .long wt.toInt64]) (st := [.ref at9, .ref al]) C (c_TareInit wd_eq) q194 q192 q193 q12 rfl ⟨by decide, by decide⟩ (show (parseMethodDescriptor yX4_init.desc).map (fun d => d.parameters.length) = some 3 by decide +kernel) (by decide) (by decide) (by decide) (by decide) (Nat.le_of_ble_eq_true rfl) rfl dX5_tell_56 rfl ?_
    rintro v9 w5 ⟨rfl, e0, ef⟩
    show V g k 6 w5 1 3 (kQ g k (fun v w' => v = some (.int (nI 1)) ∧ (∃ el', BkAt g w' a1 al (n + 1) el' (upd tD n dy) (upd tV n vh) (upd tT n wt)) ∧ (∀ t, t ≠ 101 → (t < 120 ∨ 123 ≤ t) → (t < 3000 ∨ 3200 < t) → w' t = w t)) 2 463) 59 [(0, .ref a1), (1, .int dy), (2, .int vh), (3, .long wt.toInt64)] [.ref at9, .ref al]
    have k5 : ∀ t, t ≠ 3000 + n → w5 t = w t := fun t ht => (ef t (by omega)).trans (wd_ne ht)
    have hl5 : LsAt g w5 120 al n el (fun j => 3000 + j) := hb.2.1.kept (k5 _ (by omega)) (k5 _ (by omega)) (fun j hj h => h.kept (k5 _ (by omega)))
    refine r_callV (q := 62) (t := 120) (As := [.ref at9]) (st := []) C koJx4a65c ((k5 _ (by omega)).trans hls) (c_ALadd (tx := 3000 + n) hl5 (by omega) ⟨4, 3, _, _, _, _, e0, koX4, q940⟩ (by omega)) q212 q209 q210 q211 q5 rfl ⟨by decide, by decide⟩ (show (parseMethodDescriptor yJx4a65c_add_9ea2d.desc).map (fun d => d.parameters.length) = some 1 by decide +kernel) (by decide) (by decide) (by decide) (by decide) (Nat.le_of_ble_eq_true rfl) rfl dX5_tell_59 rfl ?_
    rintro v9 w6 ⟨rfl, hl6, ef6⟩
    show V g k 6 w6 2 463 (kQ g k (fun v w' => v = some (.int (nI 1)) ∧ (∃ el', BkAt g w' a1 al (n + 1) el' (upd tD n dy) (upd tV n vh) (upd tT n wt)) ∧ (∀ t, t ≠ 101 → (t < 120 ∨ 123 ≤ t) → (t < 3000 ∨ 3200 < t) → w' t = w t)) 2 463) 62 [(0, .ref a1), (1, .int dy), (2, .int vh), (3, .long wt.toInt64)] [.int (nI 1)]
    refine r_pop (q := 63) C dX5_tell_62 rfl rfl ?_
    refine r_iconst (q := 64) C (nI 1) dX5_tell_63 (by decide) rfl ?_
    refine r_zret C rfl rfl (by decide) (by decide) dX5_tell_64 ⟨rfl, ⟨va_up el n at9, (ef6 101 (by omega)).trans ((k5 101 (by omega)).trans hb.1), ?_, fun j hj => ?_⟩, fun t h1 h2 h3 => (ef6 t (by omega)).trans (k5 t (by omega))⟩
    · have e7 : va_up (fun j => 3000 + j) n (3000 + n) = (fun j => 3000 + j) := by
        funext j
        unfold va_up
        by_cases z : j = n
        · rw [if_pos z, z]
        · rw [if_neg z]
      rw [e7] at hl6
      exact hl6
    · by_cases z : j = n
      · subst z; rw [pk_us, pk_us, pk_us, vup_eq]; exact (ef6 _ (by omega)).trans e0
      · rw [pk_un z, pk_un z, pk_un z, vup_ne z]; exact (ef6 _ (by omega)).trans ((k5 _ (by omega)).trans (hb.2.2 j (by omega)))
  refine r_aload_n (q := 1) C 0 dX5_tell_0 rfl rfl ?_
  refine r_iload_n (q := 2) C 1 dX5_tell_1 rfl rfl ?_
  refine r_iload_n (q := 3) C 2 dX5_tell_2 rfl rfl ?_
  refine r_callV (q := 6) (t := 101) (As := [.int dy, .int vh]) (st := []) C koX5 hb.1 (c_lastUpTo hb hn) q171 q168 q170 qp0 q2 rfl ⟨by decide, by decide⟩ (show (parseMethodDescriptor yX5_lastUpTo.desc).map (fun d => d.parameters.length) = some 2 by decide +kernel) (by decide) (by decide) (by decide) (by decide) (Nat.le_of_ble_eq_true rfl) rfl dX5_tell_3 rfl ?_
  rintro v9 w1 ⟨rfl, rfl⟩
  show V g k 6 w 0 0 (kQ g k (fun v w' => v = some (.int (nI 1)) ∧ (∃ el', BkAt g w' a1 al (n + 1) el' (upd tD n dy) (upd tV n vh) (upd tT n wt)) ∧ (∀ t, t ≠ 101 → (t < 120 ∨ 123 ≤ t) → (t < 3000 ∨ 3200 < t) → w' t = w t)) 2 463) 6 [(0, .ref a1), (1, .int dy), (2, .int vh), (3, .long wt.toInt64)] [va_rf ((lu9 tD tV dy vh n).map el)]
  cases h8 : lu9 tD tV dy vh n with
  | none =>
    show V g k 6 w 0 0 (kQ g k (fun v w' => v = some (.int (nI 1)) ∧ (∃ el', BkAt g w' a1 al (n + 1) el' (upd tD n dy) (upd tV n vh) (upd tT n wt)) ∧ (∀ t, t ≠ 101 → (t < 120 ∨ 123 ≤ t) → (t < 3000 ∨ 3200 < t) → w' t = w t)) 2 463) 6 [(0, .ref a1), (1, .int dy), (2, .int vh), (3, .long wt.toInt64)] [.null]
    refine r_astoreN (q := 8) (lv' := [(5, .null), (0, .ref a1), (1, .int dy), (2, .int vh), (3, .long wt.toInt64)]) C dX5_tell_6 (by decide) rfl rfl ?_
    refine r_aloadN (q := 10) C 0 dX5_tell_8 rfl rfl ?_
    refine r_ifnullN (tgt := 30) C dX5_tell_10 (by decide) ?_
    refine r_sub (lv' := [(0, .ref a1), (1, .int dy), (2, .int vh), (3, .long wt.toInt64)]) [1, 2, 3, 4] rfl ?_
    exact fin
  | some k9 =>
    show V g k 6 w 0 0 (kQ g k (fun v w' => v = some (.int (nI 1)) ∧ (∃ el', BkAt g w' a1 al (n + 1) el' (upd tD n dy) (upd tV n vh) (upd tT n wt)) ∧ (∀ t, t ≠ 101 → (t < 120 ∨ 123 ≤ t) → (t < 3000 ∨ 3200 < t) → w' t = w t)) 2 463) 6 [(0, .ref a1), (1, .int dy), (2, .int vh), (3, .long wt.toInt64)] [.ref (el k9)]
    have hk := lu9_lt n k9 h8
    refine r_astore (q := 8) (lv' := [(5, .ref (el k9)), (0, .ref a1), (1, .int dy), (2, .int vh), (3, .long wt.toInt64)]) C dX5_tell_6 (by decide) rfl rfl ?_
    refine r_aload (q := 10) C 0 dX5_tell_8 rfl rfl ?_
    refine r_ifnull (q := 13) C dX5_tell_10 rfl ?_
    refine r_aload (q := 15) C 0 dX5_tell_13 rfl rfl ?_
    refine r_getN (q := 18) (t := (3000 + k9)) C koX4 (hb.2.2 k9 (by omega)) 0 (by decide) q197 rfl rfl dX5_tell_15 rfl ?_
    refine r_iload_n (q := 19) C 2 dX5_tell_18 rfl rfl ?_
    refine r_icmp_ne_t (tgt := 30) C dX5_tell_19 (by decide) (h9 k9 h8) ?_
    refine r_sub (lv' := [(0, .ref a1), (1, .int dy), (2, .int vh), (3, .long wt.toInt64)]) [1, 2, 3, 4] rfl ?_
    exact fin
