/-! the literal " VOID ": ldc, its fields, calls on it; length, charAt -/
theorem r_getK {own : String} {cc : ByteArray} {nL : Nat} {rt : Option FieldType} {d mc ms : Nat} {g : cx_G} {k : kx_T} {w : wd_T} {cells slots : Nat} {Q : State → Prop} {pc q : Nat} {lv : List (Nat × Value)} {st : List Value} (C : Cx g k own cc nL rt d mc ms) {o9 nm dd ref : String} {ix t : Nat} {v : Value} (Z : va_OF o9 nm dd v t (cx_A g) (kxs k) (gH g)) (hlink : Cond.fieldLink own ix ref nm dd ∈ GW) (href : ref = o9) (dg : decode cc pc = .ok (.getfield ix, 3)) (e : pc + 3 = q) (kk : V g k nL w cells slots Q q lv (v :: st)) : V g k nL w cells slots Q pc lv (.ref t :: st) := by
  subst e href
  intro H locs ls ⟨ws, hP, hD, hw, hS⟩ h2 h3
  obtain ⟨cf, kf, fi, f, cell, g1, g2, g3, g4, g5, g6⟩ := Z
  exact W.getf C.1 C.2.1 C.2.2.2.1 (C.2.2.2.2.1 _ hlink) g1 g2 (by rw [hS.2.1 t (Array.getElem?_eq_some_iff.mp g3).1 g6]; exact g3) g4 (v := v) g5 rfl rfl dg (kk H locs ls ⟨ws, hP, hD, hw, hS⟩ h2 h3)
theorem r_ldcV {own : String} {cc : ByteArray} {nL : Nat} {rt : Option FieldType} {d mc ms : Nat} {g : cx_G} {k : kx_T} {w : wd_T} {cells slots : Nat} {Q : State → Prop} {pc q : Nat} {lv : List (Nat × Value)} {st : List Value} (C : Cx g k own cc nL rt d mc ms) {tx : String} {ix t : Nat} (Z : vk_R own ix tx t (kxs k)) (dg : decode cc pc = .ok (.ldc ix, 2)) (e : pc + 2 = q) (kk : V g k nL w cells slots Q q lv (.ref t :: st)) : V g k nL w cells slots Q pc lv st := by
  subst e
  intro H locs ls h1 h2 h3
  exact va_ldcS C.1 C.2.1 C.2.2.2.1 Z dg (kk H locs ls h1 h2 h3)
theorem r_getsQ {own : String} {cc : ByteArray} {nL : Nat} {rt : Option FieldType} {d mc ms : Nat} {g : cx_G} {k : kx_T} {w : wd_T} {cells slots : Nat} {Q : State → Prop} {pc q : Nat} {lv : List (Nat × Value)} {st : List Value} (C : Cx g k own cc nL rt d mc ms) {CN nm dd ref : String} {ix : Nat} (Z : va_Zq CN nm dd (cx_A g) (kxs k) (gH g)) (hlink : Cond.fieldLink own ix ref nm dd ∈ GW) (href : ref = CN) (dg : decode cc pc = .ok (.getstatic ix, 3)) (e : pc + 3 = q) (k1 : V g k nL w cells slots Q q lv (.null :: st)) (k2 : ∀ t : Nat, V g k nL w cells slots Q q lv (.ref t :: st)) : V g k nL w cells slots Q pc lv st := by
  rcases Z with Z | ⟨t, Z⟩
  · exact r_gets C Z hlink href dg e k1
  · exact r_gets C Z hlink href dg e (k2 t)
theorem r_callK {own : String} {cc : ByteArray} {nL : Nat} {rt : Option FieldType} {d mc ms : Nat} {g : cx_G} {k : kx_T} {w : wd_T} {cells slots : Nat} {Q : State → Prop} {pc q : Nat} {lv : List (Nat × Value)} {st : List Value} (C : Cx g k own cc nL rt d mc ms) {y : MethodName} {bytes : ByteArray} {n2 d2 mc2 ms2 ix : Nat} {rt2 : Option FieldType} {As : List Value} {a : Nat} {CN : String} {Φ : Option Value → wd_T → Prop} (Z : va_O CN a (cx_A g) (kxs k) (gH g)) (hM : Mt (kxl k) g y bytes n2 rt2 d2 mc2 ms2 w (.ref a :: As) Φ) (hcode : Cond.code y bytes n2 rt2 ∈ GW) (hlink : Cond.methodLink own ix y ∈ GW) (hin : Cond.instanceMethod y ∈ GW) (hsel : Cond.selects CN y y ∈ GW) (hini : Cond.initialized CN ∈ GW) (hcn : y.cls = CN) (hmh : y.cls ≠ "java/lang/invoke/MethodHandle" ∧ y.cls ≠ "java/lang/invoke/VarHandle") (hpar : (parseMethodDescriptor y.desc).map (fun d => d.parameters.length) = some As.length) (hd : d2 + 1 ≤ d) (hm : n2 ≤ 21) (z1 : cells + mc2 ≤ mc) (z2 : slots + ms2 ≤ ms) (hst : (st.map fun v => v.category).sum ≤ 8) {st0 : List Value} (hst0 : st0 = As.reverse ++ .ref a :: st) (dg : decode cc pc = .ok (.invokevirtual ix, 3)) (e : pc + 3 = q)
    (kk : ∀ (v : Option Value) (w' : wd_T), Φ v w' → V g k nL w' (cells + mc2) (slots + ms2) Q q lv (v.toList ++ st)) : V g k nL w cells slots Q pc lv st0 := by
  subst e hst0
  intro H locs ls ⟨ws, hP, hD, hw, hS⟩ h2 h3
  obtain ⟨cell, g1, g2, g3, g4⟩ := Z
  have hr : ∃ cell : Cell, H[a]? = some cell ∧ cell.vm.isStatics = false ∧ (kxs k).vm.findClass CN = some cell.cls := ⟨cell, by rw [hS.2.1 a (Array.getElem?_eq_some_iff.mp g1).1 g4]; exact g1, g2, g3⟩
  have hts := C.2.2.2.2.1
  have cb : CallB (kxR k) (kxs k) (kxa k) own ix y bytes n2 rt2 (Cond.code y bytes n2 rt2 :: GW) (rmd d2 mc2 ms2) mc2 ms2 As.length := callB_of As.length hts (gw_in hcode) rfl rfl rfl (hts _ (by rw [hcn]; exact hini)) (hts _ hlink) ⟨hmh.1, hmh.2, hpar⟩ ⟨Nat.le_trans hd C.2.2.2.2.2.2.2.2.1, by have := C.2.2.2.2.2.2.2.2.2.1; show 8 + (n2 + 11) + 40 * d2 ≤ _; omega⟩
  exact go_run (va_runV (As := As) (rest := st) ⟨C.1, C.2.1, C.2.2.1, C.2.2.2.1, C.2.2.2.2.1⟩ hM ⟨cb, hts _ hin, hts _ hsel⟩ ⟨Pre9_blind, hr, fun U hU hW => ⟨rfl, by rw [hU]; exact ⟨ws, hP, hD, hw, hS⟩, C.2.2.2.2.2.2.1.warm hW⟩⟩ rfl rfl h3.1 rfl (lv_room hst) dg ⟨Nat.le_trans z1 C.2.2.2.2.2.2.2.2.2.2.1, Nat.le_trans z2 C.2.2.2.2.2.2.2.2.2.2.2⟩) h2 h3 kk
theorem ks_SI {own : String} {cc : ByteArray} {nL : Nat} {rt : Option FieldType} {d mc ms : Nat} {g : cx_G} {k : kx_T} (C : Cx g k own cc nL rt d mc ms) : va_Zq "jdk/internal/util/Preconditions" "SIOOBE_FORMATTER" "Ljava/util/function/BiFunction;" (cx_A g) (kxs k) (gH g) := C.2.2.2.2.2.2.1.2.1.2.2.2.2.2.2.2.2.2.2.2.2.2.2.2.2.2
def kVc (j : Nat) : Nat := [32, 86, 79, 73, 68, 32].getD j 0
theorem kVc_of : ∀ j, j < 6 → ((kVo j &&& nI 255).toUInt32 % 65536).toInt32 = nI (kVc j) := by decide +kernel
theorem kVc_nar : ∀ j, j < 6 → narrow .char (.int (nI (kVc j))) = .int (nI (kVc j)) := by
  intro j hj
  have c : j = 0 ∨ j = 1 ∨ j = 2 ∨ j = 3 ∨ j = 4 ∨ j = 5 := by omega
  rcases c with rfl | rfl | rfl | rfl | rfl | rfl <;> rfl
theorem kVc_lt : ∀ j, j < 6 → kVc j < 256 := by decide
set_option maxHeartbeats 4000000 in
set_option maxRecDepth 20000 in
theorem c_coder {l : Launch} {g : cx_G} {w : wd_T}  : Mt l g yJ0_coder_7d493 cJ0_coder_7d493 1 (some .byte) 0 0 0 w [.ref (gsV g)] (fun v w' => v = some (.int (0)) ∧ w = w') := by
  refine mt_of RJ0 "coder" rfl rfl (by decide) (Nat.le_of_ble_eq_true rfl) [(0, .ref (gsV g))] rfl ?_
  intro k hkl C hin
  subst hkl
  refine r_gets (q := 3) C (ks_CS C) q509 rfl dJ0_coder_7d493_0 rfl ?_
  refine r_if_eq_f (q := 6) (tgt := 13) C dJ0_coder_7d493_3 (by decide) rfl (by decide) ?_
  refine r_aload_n (q := 7) C 0 dJ0_coder_7d493_6 rfl rfl ?_
  refine r_getK (q := 10) C (ks_Vc C) q954 rfl dJ0_coder_7d493_7 rfl ?_
  refine r_goto (tgt := 14) C dJ0_coder_7d493_10 (by decide) ?_
  exact r_zret C rfl rfl (by decide) (by decide) dJ0_coder_7d493_14 ⟨rfl, rfl⟩

set_option maxHeartbeats 4000000 in
set_option maxRecDepth 20000 in
theorem c_slen {l : Launch} {g : cx_G} {w : wd_T}  : Mt l g yJ0_length_8abf5 cJ0_length_8abf5 1 (some .int) 1 0 0 w [.ref (gsV g)] (fun v w' => v = some (.int (nI 6)) ∧ w = w') := by
  refine mt_of RJ0 "length" rfl rfl (by decide) (Nat.le_of_ble_eq_true rfl) [(0, .ref (gsV g))] rfl ?_
  intro k hkl C hin
  subst hkl
  refine r_aload_n (q := 1) C 0 dJ0_length_8abf5_0 rfl rfl ?_
  refine r_getK (q := 4) C (ks_Vv C) q953 rfl dJ0_length_8abf5_1 rfl ?_
  refine r_slen (q := 5) C (ks_Vt C) dJ0_length_8abf5_4 rfl ?_
  refine r_aload_n (q := 6) C 0 dJ0_length_8abf5_5 rfl rfl ?_
  refine r_callK (q := 9) (As := []) (st := [.int (nI 6)]) C (ks_Vo C) (c_coder) q508 q505 q506 q507 q19 rfl ⟨by decide, by decide⟩ (show (parseMethodDescriptor yJ0_coder_7d493.desc).map (fun d => d.parameters.length) = some 0 by decide +kernel) (by decide) (by decide) (by decide) (by decide) (Nat.le_of_ble_eq_true rfl) rfl dJ0_length_8abf5_6 rfl ?_
  rintro v9 _ ⟨rfl, rfl⟩
  show V g k 1 w 0 0 (kQ g k (fun v w' => v = some (.int (nI 6)) ∧ w = w') 0 0) 9 [(0, .ref (gsV g))] [.int 0, .int (nI 6)]
  refine r_ishr (q := 10) C dJ0_length_8abf5_9 rfl ?_
  exact r_iret C rfl (by decide) (by decide) dJ0_length_8abf5_10 ⟨rfl, rfl⟩

set_option maxHeartbeats 4000000 in
set_option maxRecDepth 20000 in
theorem c_isL1 {l : Launch} {g : cx_G} {w : wd_T}  : Mt l g yJ0_isLatin1_aae02 cJ0_isLatin1_aae02 1 (some .boolean) 0 0 0 w [.ref (gsV g)] (fun v w' => v = some (.int (nI 1)) ∧ w = w') := by
  refine mt_of RJ0 "isLatin1" rfl rfl (by decide) (Nat.le_of_ble_eq_true rfl) [(0, .ref (gsV g))] rfl ?_
  intro k hkl C hin
  subst hkl
  refine r_gets (q := 3) C (ks_CS C) q509 rfl dJ0_isLatin1_aae02_0 rfl ?_
  refine r_if_eq_f (q := 6) (tgt := 17) C dJ0_isLatin1_aae02_3 (by decide) rfl (by decide) ?_
  refine r_aload_n (q := 7) C 0 dJ0_isLatin1_aae02_6 rfl rfl ?_
  refine r_getK (q := 10) C (ks_Vc C) q954 rfl dJ0_isLatin1_aae02_7 rfl ?_
  refine r_if_ne_f (q := 13) (tgt := 17) C dJ0_isLatin1_aae02_10 (by decide) rfl (by decide) ?_
  refine r_iconst (q := 14) C (nI 1) dJ0_isLatin1_aae02_13 (by decide) rfl ?_
  refine r_goto (tgt := 18) C dJ0_isLatin1_aae02_14 (by decide) ?_
  exact r_zret C rfl rfl (by decide) (by decide) dJ0_isLatin1_aae02_18 ⟨rfl, rfl⟩

theorem c_ckIr0 : True := trivial
set_option maxHeartbeats 4000000 in
set_option maxRecDepth 20000 in
theorem c_ckIr {l : Launch} {g : cx_G} {w : wd_T} {i n fx : Nat} (hi : i < n) (hn : n < 65536) : Mt l g yJ3_checkIndex_8e157 cJ3_checkIndex_8e157 3 (some .int) 0 0 0 w [.int (nI i), .int (nI n), .ref fx] (fun v w' => v = some (.int (nI i)) ∧ w = w') := by
  refine mt_of RJ3 "checkIndex" rfl rfl (by decide) (Nat.le_of_ble_eq_true rfl) [(0, .int (nI i)), (1, .int (nI n)), (2, .ref fx)] rfl ?_
  intro k hkl C hin
  subst hkl
  refine r_iload_n (q := 1) C 0 dJ3_checkIndex_8e157_0 rfl rfl ?_
  refine r_if_lt_f (q := 4) (tgt := 9) C dJ3_checkIndex_8e157_1 (by decide) rfl (nI_pos (by omega)) ?_
  refine r_iload_n (q := 5) C 0 dJ3_checkIndex_8e157_4 rfl rfl ?_
  refine r_iload_n (q := 6) C 1 dJ3_checkIndex_8e157_5 rfl rfl ?_
  refine r_icmp_lt_t (tgt := 16) C dJ3_checkIndex_8e157_6 (by decide) ((nI_ltI (a := i) (b := n) (by omega) (by omega)).mpr (by omega)) ?_
  refine r_iload_n (q := 17) C 0 dJ3_checkIndex_8e157_16 rfl rfl ?_
  exact r_iret C rfl (by decide) (by decide) dJ3_checkIndex_8e157_17 ⟨rfl, rfl⟩

set_option maxHeartbeats 4000000 in
set_option maxRecDepth 20000 in
theorem c_sck {l : Launch} {g : cx_G} {w : wd_T} {i n : Nat} (hi : i < n) (hn : n < 65536) : Mt l g yJ0_checkIndex_df160 cJ0_checkIndex_df160 2 none 1 0 0 w [.int (nI i), .int (nI n)] (fun v w' => v = none ∧ w = w') := by
  refine mt_of RJ0 "checkIndex" rfl rfl (by decide) (Nat.le_of_ble_eq_true rfl) [(0, .int (nI i)), (1, .int (nI n))] rfl ?_
  intro k hkl C hin
  subst hkl
  refine r_iload_n (q := 1) C 0 dJ0_checkIndex_df160_0 rfl rfl ?_
  refine r_iload_n (q := 2) C 1 dJ0_checkIndex_df160_1 rfl rfl ?_
  refine r_getsQ (q := 5) C (ks_SI C) q525 rfl dJ0_checkIndex_df160_2 rfl ?_ (fun fx => ?_)
  · refine r_callS (q := 8) (As := [.int (nI i), .int (nI n), .null]) (st := []) C (c_ckI hi hn) q185 q527 q184 q11 ⟨by decide, by decide⟩ (show (parseMethodDescriptor yJ3_checkIndex_8e157.desc).map (fun d => d.parameters.length) = some 3 by decide +kernel) (by decide) (by decide) (by decide) (by decide) (Nat.le_of_ble_eq_true rfl) rfl dJ0_checkIndex_df160_5 rfl ?_
    rintro v9 w1 ⟨rfl, rfl⟩
    show V g k 2 w 0 0 (kQ g k (fun v w' => v = none ∧ w = w') 0 0) 8 [(0, .int (nI i)), (1, .int (nI n))] [.int (nI i)]
    refine r_pop (q := 9) C dJ0_checkIndex_df160_8 rfl rfl ?_
    exact r_vret C rfl (by decide) (by decide) dJ0_checkIndex_df160_9 ⟨rfl, rfl⟩
  · refine r_callS (q := 8) (As := [.int (nI i), .int (nI n), .ref fx]) (st := []) C (c_ckIr hi hn) q185 q527 q184 q11 ⟨by decide, by decide⟩ (show (parseMethodDescriptor yJ3_checkIndex_8e157.desc).map (fun d => d.parameters.length) = some 3 by decide +kernel) (by decide) (by decide) (by decide) (by decide) (Nat.le_of_ble_eq_true rfl) rfl dJ0_checkIndex_df160_5 rfl ?_
    rintro v9 w1 ⟨rfl, rfl⟩
    show V g k 2 w 0 0 (kQ g k (fun v w' => v = none ∧ w = w') 0 0) 8 [(0, .int (nI i)), (1, .int (nI n))] [.int (nI i)]
    refine r_pop (q := 9) C dJ0_checkIndex_df160_8 rfl rfl ?_
    exact r_vret C rfl (by decide) (by decide) dJ0_checkIndex_df160_9 ⟨rfl, rfl⟩

set_option maxHeartbeats 4000000 in
set_option maxRecDepth 20000 in
theorem c_l1ch {l : Launch} {g : cx_G} {w : wd_T} {i : Nat} (hi : i < 6) : Mt l g yJ1_charAt_3b067 cJ1_charAt_3b067 2 (some .char) 2 0 0 w [.ref (gsW g), .int (nI i)] (fun v w' => v = some (.int (nI (kVc i))) ∧ w = w') := by
  refine mt_of RJ1 "charAt" rfl rfl (by decide) (Nat.le_of_ble_eq_true rfl) [(0, .ref (gsW g)), (1, .int (nI i))] rfl ?_
  intro k hkl C hin
  subst hkl
  refine r_iload_n (q := 1) C 1 dJ1_charAt_3b067_0 rfl rfl ?_
  refine r_aload_n (q := 2) C 0 dJ1_charAt_3b067_1 rfl rfl ?_
  refine r_slen (q := 3) C (ks_Vt C) dJ1_charAt_3b067_2 rfl ?_
  refine r_callS (q := 6) (As := [.int (nI i), .int (nI 6)]) (st := []) C (c_sck hi (by decide)) q524 q522 q523 q19 ⟨by decide, by decide⟩ (show (parseMethodDescriptor yJ0_checkIndex_df160.desc).map (fun d => d.parameters.length) = some 2 by decide +kernel) (by decide) (by decide) (by decide) (by decide) (Nat.le_of_ble_eq_true rfl) rfl dJ1_charAt_3b067_3 rfl ?_
  rintro v9 w1 ⟨rfl, rfl⟩
  show V g k 2 w 0 0 (kQ g k (fun v w' => v = some (.int (nI (kVc i))) ∧ w = w') 0 0) 6 [(0, .ref (gsW g)), (1, .int (nI i))] []
  refine r_aload_n (q := 7) C 0 dJ1_charAt_3b067_6 rfl rfl ?_
  refine r_iload_n (q := 8) C 1 dJ1_charAt_3b067_7 rfl rfl ?_
  refine r_sbald (q := 9) C (ks_Vt C) i rfl (by omega) (by decide) dJ1_charAt_3b067_8 rfl ?_
  refine r_sipush (q := 12) C (nI 255) dJ1_charAt_3b067_9 (by decide) rfl ?_
  refine r_iand (q := 13) C dJ1_charAt_3b067_12 rfl ?_
  refine r_i2c (q := 14) C dJ1_charAt_3b067_13 rfl ?_
  refine r_ti (show ((((kVo i) &&& (nI 255)).toUInt32 % 65536).toInt32 : Int32) = nI (kVc i) from kVc_of i hi) ?_
  exact r_zret C rfl (kVc_nar i hi) (by decide) (by decide) dJ1_charAt_3b067_14 ⟨rfl, rfl⟩

set_option maxHeartbeats 4000000 in
set_option maxRecDepth 20000 in
theorem c_sch {l : Launch} {g : cx_G} {w : wd_T} {i : Nat} (hi : i < 6) : Mt l g yJ0_charAt_5068e cJ0_charAt_5068e 2 (some .char) 3 0 0 w [.ref (gsV g), .int (nI i)] (fun v w' => v = some (.int (nI (kVc i))) ∧ w = w') := by
  refine mt_of RJ0 "charAt" rfl rfl (by decide) (Nat.le_of_ble_eq_true rfl) [(0, .ref (gsV g)), (1, .int (nI i))] rfl ?_
  intro k hkl C hin
  subst hkl
  refine r_aload_n (q := 1) C 0 dJ0_charAt_5068e_0 rfl rfl ?_
  refine r_callK (q := 4) (As := []) (st := []) C (ks_Vo C) (c_isL1) q518 q515 q516 q517 q19 rfl ⟨by decide, by decide⟩ (show (parseMethodDescriptor yJ0_isLatin1_aae02.desc).map (fun d => d.parameters.length) = some 0 by decide +kernel) (by decide) (by decide) (by decide) (by decide) (Nat.le_of_ble_eq_true rfl) rfl dJ0_charAt_5068e_1 rfl ?_
  rintro v9 _ ⟨rfl, rfl⟩
  show V g k 2 w 0 0 (kQ g k (fun v w' => v = some (.int (nI (kVc i))) ∧ w = w') 0 0) 4 [(0, .ref (gsV g)), (1, .int (nI i))] [.int (nI 1)]
  refine r_if_eq_f (q := 7) (tgt := 16) C dJ0_charAt_5068e_4 (by decide) rfl (by decide) ?_
  refine r_aload_n (q := 8) C 0 dJ0_charAt_5068e_7 rfl rfl ?_
  refine r_getK (q := 11) C (ks_Vv C) q953 rfl dJ0_charAt_5068e_8 rfl ?_
  refine r_iload_n (q := 12) C 1 dJ0_charAt_5068e_11 rfl rfl ?_
  refine r_callS (q := 15) (As := [.ref (gsW g), .int (nI i)]) (st := []) C (c_l1ch hi) q521 q519 q520 q20 ⟨by decide, by decide⟩ (show (parseMethodDescriptor yJ1_charAt_3b067.desc).map (fun d => d.parameters.length) = some 2 by decide +kernel) (by decide) (by decide) (by decide) (by decide) (Nat.le_of_ble_eq_true rfl) rfl dJ0_charAt_5068e_12 rfl ?_
  rintro v9 w1 ⟨rfl, rfl⟩
  show V g k 2 w 0 0 (kQ g k (fun v w' => v = some (.int (nI (kVc i))) ∧ w = w') 0 0) 15 [(0, .ref (gsV g)), (1, .int (nI i))] [.int (nI (kVc i))]
  exact r_zret C rfl (kVc_nar i hi) (by decide) (by decide) dJ0_charAt_5068e_15 ⟨rfl, rfl⟩
