/-! byteAt: of the class, which may throw, and of the law, which catches -/
def nmX : List String := ["java/lang/IndexOutOfBoundsException", "java/lang/RuntimeException", "java/lang/Exception"]
def KX (g : cx_G) (U : State) : Prop := vx_L Bundle.tN "UNASSIGNED_STACK" Bundle.steD (cx_A g) U (gH g) ∧ vx_L Bundle.tN "SUPPRESSED_SENTINEL" Bundle.listD (cx_A g) U (gH g)
theorem KX.moved {g : cx_G} {u U : State} (hvm : u.vm.Alike U.vm) (h : KX g u) : KX g U := ⟨h.1.moved hvm, h.2.moved hvm⟩
def PreX (g : cx_G) (w : wd_T) (av : List Value) : Array Value → State → Prop := fun a U => Pre9 g w av a U ∧ KX g U
theorem PreX_blind {g : cx_G} {w : wd_T} {av : List Value} : FrameBlind (PreX g w av) := fun a U g9 mk q => ⟨Pre9_blind a U g9 mk q.1, q.2.moved (u := U) (U := U.calling g9 mk a) (Vm.Alike.refl U.vm)⟩
def XC9 (g : cx_G) (w : wd_T) : String → State → State → Prop := fun E _ t => E = "java/lang/ArrayIndexOutOfBoundsException" ∧ hp_ok g w t.heap
/-- a method that throws -/
def MtX (l : Launch) (g : cx_G) (y : MethodName) (cc : ByteArray) (nL : Nat) (rt : Option FieldType) (d mc ms : Nat) (w : wd_T) (av : List Value) : Prop :=
  vx_Met l y (Cond.code y cc nL rt :: GW) (rmd d mc ms) (PreX g w av) (fun _ _ _ _ => False) (XC9 g w) mc ms (cx_A g)
/-- a method with a table of its own, which returns -/
def MtH (l : Launch) (g : cx_G) (y : MethodName) (cc : ByteArray) (nL : Nat) (rt : Option FieldType) (hh : List (Nat × Nat × Nat × Nat)) (d mc ms : Nat) (w : wd_T) (av : List Value) (Φ : Option Value → wd_T → Prop) : Prop :=
  Met l y (Cond.codeWith y cc nL rt hh :: GW) (rmd d mc ms) (PreX g w av) (Post9 g Φ) mc ms (cx_A g)
theorem mtx_of {l : Launch} {g : cx_G} {y : MethodName} {cc : ByteArray} {nL : Nat} {rt : Option FieldType} {d mc ms : Nat} {w : wd_T} {av : List Value} (own : String) (ho : y.cls = own) (hy : plainName y.cls = true) (hn : (lg_sl av).length ≤ nL) (lv : List (Nat × Value)) (hlv : lv_args 0 av = lv)
    (body : ∀ k : kx_T, kxl k = l → Cx g k own cc nL rt d mc ms → KX g (kxs k) → (∀ x ∈ (kxc k).exceptionTable.toList, False) → hp_ok g w (kxs k).heap → V g k nL w 0 0 (vx_MQ (kxb k) (fun _ _ _ _ => False) (XC9 g w) (kxa k) (kxs k) mc ms (cx_A g)) 0 lv []) : MtX l g y cc nL rt d mc ms w av := by
  refine vx_ofW (cc := cc) (maxL := nL) (ret := rt) hy rfl ?_
  intro p e s m args below meth c s₁ B hml ht hv
  obtain ⟨⟨rfl, hh, hkn⟩, hkx⟩ := hv
  have hts := atoms_spec (ws := Cond.code y cc nL rt :: GW) B.pre
  subst ho
  have C : Cx g (p, l, e, rmd d mc ms, s, m, av.toArray, below, meth, c) y.cls cc nL rt d mc ms := ⟨B.exec, B.bytes, hml, findClass_of_methodNamed B.named, fun w hw => hts w (List.mem_cons_of_mem _ hw), B.notSynchronized, hkn, B.returns, Nat.le_refl _, Nat.le_refl _, Nat.le_refl _, Nat.le_refl _⟩
  have hl := lv_entry av (n := nL) hn
  rw [lg_entry_eq]
  rw [hlv] at hl
  exact body (p, l, e, rmd d mc ms, s, m, av.toArray, below, meth, c) rfl C hkx ht hh s.heap [] _ hh (fun _ q => nomatch q) hl
theorem mth_of {l : Launch} {g : cx_G} {y : MethodName} {cc : ByteArray} {nL : Nat} {rt : Option FieldType} {hh : List (Nat × Nat × Nat × Nat)} {d mc ms : Nat} {w : wd_T} {av : List Value} {Φ : Option Value → wd_T → Prop} (own : String) (ho : y.cls = own) (hy : plainName y.cls = true) (hn : (lg_sl av).length ≤ nL) (lv : List (Nat × Value)) (hlv : lv_args 0 av = lv)
    (body : ∀ k : kx_T, kxl k = l → Cx g k own cc nL rt d mc ms → KX g (kxs k) → (kxc k).exceptionTable.toList = tableOf hh → V g k nL w 0 0 (kQ g k Φ mc ms) 0 lv []) : MtH l g y cc nL rt hh d mc ms w av Φ := by
  unfold MtH Met
  refine MetFree.of_bodyS (code := cc) (maxLocals := nL) (ret := rt) hy ?_ ?_
  · intro args s m h hn
    obtain ⟨m9, meth, c, hn9, h1, h2, h3, h4, -, h5, h6, -⟩ := Cond.codeWith_spec (atoms_spec (ws := Cond.codeWith y cc nL rt hh :: GW) h _ List.mem_cons_self)
    cases hn.symm.trans hn9
    exact ⟨meth, c, h1, h2, h3, h4, h5, h6⟩
  · intro p e s m args below meth c s₁ B hml hP _
    obtain ⟨⟨rfl, hh9, hkn⟩, hkx⟩ := hP
    have hh0 : s₁.heap = s.heap := by rw [B.state]; rfl
    have hts := atoms_spec (ws := Cond.codeWith y cc nL rt hh :: GW) B.pre
    have htab := vx_table (x := y) B (hts _ List.mem_cons_self)
    subst ho
    have C : Cx g (p, l, e, rmd d mc ms, s, m, av.toArray, below, meth, c) y.cls cc nL rt d mc ms := ⟨B.exec, B.bytes, hml, findClass_of_methodNamed B.named, fun w hw => hts w (List.mem_cons_of_mem _ hw), B.notSynchronized, hkn, B.returns, Nat.le_refl _, Nat.le_refl _, Nat.le_refl _, Nat.le_refl _⟩
    have hl := lv_entry av (n := nL) hn
    rw [hlv] at hl
    have K := body (p, l, e, rmd d mc ms, s, m, av.toArray, below, meth, c) rfl C hkx htab s.heap [] _ hh9 (fun _ q => nomatch q) hl
    rw [← lg_entry_eq] at K
    obtain ⟨t, a1, o, b1, b2, b3⟩ := K s₁ hh0 (Stand.of_body B)
    exact ⟨t, o, a1, b1, b2, b3⟩
theorem hatX {args : Array Value} {s : State} {g : cx_G} (hts : ∀ w ∈ GW, w.before args s = true) (hk : kn_ok g s) : ∀ w ∈ vx_atS "TicketChain" 157 "java/lang/ArrayIndexOutOfBoundsException" nmX, w.before args s = true := by
  have nb : ∀ {w : Cond}, w ∈ NW → w.before args s = true := fun hw => va_tabs (nw_onT (nw_in hw)) (u := s) (U := s) rfl (hk.2.2 _ hw)
  refine vx_hat (B := [tables_1[655]?, tables_1[657]?, tables_1[659]?, tables_1[661]?, tables_1[653]?].filterMap id) ?_ ?_ ?_
  · intro w hw
    have hg : goodWord w = true := (List.mem_filter.mp hw).2
    have hm : w ∈ lw_tbl := (goodIn_r (big := lw_tbl) _ [53, 700, 657, 660, 663, 665, 701, 702, 64, 65, 651, 656, 661, 668, 694, 669, 695, 670, 696, 652, 654, 697, 649, 650, 667, 697, 637, 638, 639, 640, 640, 641, 642, 643, 643, 644, 645, 646, 646, 647, 648, 649, 715, 636, 693, 659, 675, 677, 681, 673, 666, 698, 671] (by decide +kernel) (by decide +kernel) w hw).1
    exact hts w (List.mem_filter.mpr ⟨hm, hg⟩)
  · decide +kernel
  · intro w hw
    refine nb ?_
    have h9 : ∀ w ∈ ([tables_1[655]?, tables_1[657]?, tables_1[659]?, tables_1[661]?, tables_1[653]?].filterMap id : List Cond), w ∈ tables_1 ∧ nw_ok w = true := by
      intro w hw
      obtain ⟨z, hz, e⟩ := List.mem_filterMap.mp hw
      have hz' : z = some w := e
      subst hz'
      have key : ∀ u ∈ ([tables_1[655]?, tables_1[657]?, tables_1[659]?, tables_1[661]?, tables_1[653]?] : List (Option Cond)), (match u with | some v => nw_ok v | none => true) = true := by decide +kernel
      refine ⟨?_, key _ hz⟩
      rcases List.mem_cons.mp hz with h | hz
      · exact List.mem_of_getElem? h.symm
      rcases List.mem_cons.mp hz with h | hz
      · exact List.mem_of_getElem? h.symm
      rcases List.mem_cons.mp hz with h | hz
      · exact List.mem_of_getElem? h.symm
      rcases List.mem_cons.mp hz with h | hz
      · exact List.mem_of_getElem? h.symm
      rcases List.mem_cons.mp hz with h | hz
      · exact List.mem_of_getElem? h.symm
      · exact absurd hz List.not_mem_nil
    exact List.mem_filter.mpr (h9 w hw)
set_option maxRecDepth 20000 in
theorem r_throwS {g : cx_G} {k : kx_T} {nL : Nat} {rt : Option FieldType} {d mc ms : Nat} {w : wd_T} {cells slots : Nat} {lv : List (Nat × Value)} {w0 : wd_T} {Qc : Array Value → State → Outcome → State → Prop} (C : Cx g k RX7 cX7_byteAt nL rt d mc ms) (hl : (kxl k).stackTraces = false) (ht : ∀ x ∈ (kxc k).exceptionTable.toList, False) (hX : KX g (kxs k)) (h0 : hp_ok g w0 (kxs k).heap) (hd : 7 ≤ d) (z1 : cells + 1 ≤ mc) (z2 : slots + 6 ≤ ms) : V g k nL w cells slots (vx_MQ (kxb k) Qc (XC9 g w) (kxa k) (kxs k) mc ms (cx_A g)) 21 lv [] := by
  intro H locs ls ⟨ws, hP, hD, hw, hS⟩ h2 h3 T hT X
  obtain ⟨-, -, -, -, -, -, -, -, -, -, -, -, hstr, hU, hN, -⟩ := C.2.2.2.2.2.2.1.2.1
  obtain ⟨ws0, -, -, -, hS0⟩ := h0
  have hsz : (kxs k).heap.size ≤ H.size := by rw [← hT]; exact (vx_frame X.same).1
  have e0 : ∀ a : Nat, a < (gH g).size → ¬ cx_A g a → (kxs k).heap[a]? = (gH g)[a]? := hS0.2.1
  have hfr := C.2.2.2.2.2.2.2.2.1
  have hlo := C.2.2.2.2.2.2.2.2.2.1
  refine vx_throwS (A := cx_A g) (own := "TicketChain") (cls := "java/lang/ArrayIndexOutOfBoundsException") (text := "no such byte of a row") (names := nmX) (ik := 153) (is := 155) (ic := 157) (rest := []) C.1 C.2.1 hl C.2.2.2.1 (by decide +kernel) (by decide +kernel) (C.2.2.2.2.1 _ q682) (C.2.2.2.2.1 _ q26) hstr (hatX C.2.2.2.2.1 C.2.2.2.2.2.2.1) (by decide +kernel) ⟨va_Zq.kept hU e0, hX.1.kept e0⟩ ⟨va_Zq.kept hN e0, hX.2.kept e0⟩ ?_ (h3.1.trans C.2.2.1.symm) dX7_byteAt_21 dX7_byteAt_24 dX7_byteAt_25 dX7_byteAt_27 dX7_byteAt_30 (fun x hx => (ht x hx).elim) ?_ ?_ (Nat.le_trans z1 C.2.2.2.2.2.2.2.2.2.2.1) (Nat.le_trans z2 C.2.2.2.2.2.2.2.2.2.2.2) C.2.2.2.2.2.1 ?_ h2 z1 z2 T hT X
  · exact ⟨hsz, fun q _ hA => (hS.2.1 q (Nat.lt_of_not_le hA) hA).trans (hS0.2.1 q (Nat.lt_of_not_le hA) hA).symm, h2⟩
  · show 6 < _
    omega
  · show 0 + 95 ≤ _
    omega
  · exact fun t _ hz hq => ⟨rfl, ws, hP.kept (fun j q hk => hq _ (vx_lt hP hk)), hD, hw, Nat.le_trans hS.1 hz, fun q h1 h4 => (hq q (Nat.lt_of_lt_of_le h1 hS.1)).trans (hS.2.1 q h1 h4), fun _ q => nomatch q⟩
/-- the law's own byteAt: what is thrown is caught -/
theorem r_callX {g : cx_G} {k : kx_T} {nL : Nat} {rt : Option FieldType} {d mc ms : Nat} {w : wd_T} {cells slots : Nat} {lv : List (Nat × Value)} {Q : State → Prop} {pc : Nat} {st : List Value} (C : Cx g k RL cL_byteAt nL rt d mc ms) (hX : KX g (kxs k)) (htab : (kxc k).exceptionTable.toList = tableOf [(0, 10, 13, 13)]) {n2 d2 mc2 ms2 ix : Nat} {rt2 : Option FieldType} {As : List Value} {bytes : ByteArray} {y : MethodName} {ci N t a : Nat} {CN : String} {T : u_T} {ty : Nat → FieldType} {fs : List Value} (KK : KO ci CN T N ty) (ht : w t = some (a, ob ci fs)) (hM : MtX (kxl k) g y bytes n2 rt2 d2 mc2 ms2 w (.ref a :: As)) (hcode : Cond.code y bytes n2 rt2 ∈ GW) (hlink : Cond.methodLink RL ix y ∈ GW) (hin : Cond.instanceMethod y ∈ GW) (hsel : Cond.selects CN y y ∈ GW) (hini : Cond.initialized CN ∈ GW) (hcn : y.cls = CN) (hmh : y.cls ≠ "java/lang/invoke/MethodHandle" ∧ y.cls ≠ "java/lang/invoke/VarHandle") (hpar : (parseMethodDescriptor y.desc).map (fun d => d.parameters.length) = some As.length) (hd : d2 + 1 ≤ d) (hm : n2 ≤ 21) (z1 : cells + mc2 ≤ mc) (z2 : slots + ms2 ≤ ms) (hst : (st.map fun v => v.category).sum ≤ 8) {st0 : List Value} (hst0 : st0 = As.reverse ++ .ref a :: st) (dg : decode cL_byteAt pc = .ok (.invokevirtual ix, 3)) (hpc : pc < 10)
    (kk : ∀ q9 : Nat, V g k nL w (cells + mc2) (slots + ms2) Q 13 lv [.ref q9]) : V g k nL w cells slots Q pc lv st0 := by
  subst hst0
  intro H locs ls ⟨ws, hP, hD, hw, hS⟩ h2 h3 T9 hT X
  obtain ⟨i9, hi9⟩ := hw.1 _ _ _ ht
  have hts := C.2.2.2.2.1
  have cb : CallB (kxR k) (kxs k) (kxa k) RL ix y bytes n2 rt2 (Cond.code y bytes n2 rt2 :: GW) (rmd d2 mc2 ms2) mc2 ms2 As.length := callB_of As.length hts (gw_in hcode) rfl rfl rfl (hts _ (by rw [hcn]; exact hini)) (hts _ hlink) ⟨hmh.1, hmh.2, hpar⟩ ⟨Nat.le_trans hd C.2.2.2.2.2.2.2.2.1, by have := C.2.2.2.2.2.2.2.2.2.1; show 8 + (n2 + 11) + 40 * d2 ≤ _; omega⟩
  rcases vx_runV (As := As) (rest := st) ⟨C.1, C.2.1, C.2.2.1, C.2.2.2.1, C.2.2.2.2.1⟩ hM ⟨cb, hts _ hin, hts _ hsel⟩ ⟨PreX_blind, va_recv (q0 := i9) C.2.2.2.2.2.2.1.1 hP KK.1 hi9, fun U hU hW => ⟨⟨rfl, by rw [hU]; exact ⟨ws, hP, hD, hw, hS⟩, C.2.2.2.2.2.2.1.warm hW⟩, hX.moved hW.alike⟩⟩ rfl rfl h3.1 rfl (lv_room hst) dg ⟨Nat.le_trans z1 C.2.2.2.2.2.2.2.2.2.2.1, Nat.le_trans z2 C.2.2.2.2.2.2.2.2.2.2.2⟩ T9 hT X with ⟨v, st₀, t1, T', L, h0, X', hL, e1, e2, hq, stp⟩ | ⟨q9, st₀, t1, T', L, E, ce, h0, X', hL, e1, e2, hx, hce, hcv, hcl, stp⟩
  · exact hq.elim
  · obtain ⟨rfl, hp'⟩ := hx
    obtain ⟨t2, a1, b1⟩ := vx_catch (own := RL) (name := "java/lang/ArrayIndexOutOfBoundsException") (H := t1.heap) (rest := st) (pc := pc) (ls := ls) C.2.2.2.1 [] ⟨0, 10, 13, 13⟩ [] htab (fun z hz => nomatch hz) (by unfold covers; rw [decide_eq_true (Nat.zero_le pc), decide_eq_true hpc]; rfl) (by decide) (hts _ q604) (va_tabs rfl (u := kxs k) (U := kxs k) rfl (C.2.2.2.2.2.2.1.2.2 _ q653)) hce hcv hcl (kk q9 t1.heap (locs ++ L) ls hp' (fun z hz => by
      rcases List.mem_append.mp hz with h | h
      · exact h2 z h
      · exact hL z h) h3) T' e1 X'
    exact ⟨t2, stp.trans a1, b1⟩
/-- a static call of a method with a table of its own -/
theorem r_callSH {g : cx_G} {k : kx_T} {nL : Nat} {rt : Option FieldType} {d mc ms : Nat} {w : wd_T} {cells slots : Nat} {lv : List (Nat × Value)} {Q : State → Prop} {own : String} {cc : ByteArray} {pc q : Nat} {st : List Value} {Φ : Option Value → wd_T → Prop} (C : Cx g k own cc nL rt d mc ms) (hX : KX g (kxs k)) {y : MethodName} {bytes : ByteArray} {hh : List (Nat × Nat × Nat × Nat)} {n2 d2 mc2 ms2 ix : Nat} {rt2 : Option FieldType} {As : List Value} (hM : MtH (kxl k) g y bytes n2 rt2 hh d2 mc2 ms2 w As Φ) (hcode : Cond.codeWith y bytes n2 rt2 hh ∈ GW) (hlink : Cond.methodLink own ix y ∈ GW) (hin : Cond.static y ∈ GW) (hini : Cond.initialized y.cls ∈ GW) (hmh : y.cls ≠ "java/lang/invoke/MethodHandle" ∧ y.cls ≠ "java/lang/invoke/VarHandle") (hpar : (parseMethodDescriptor y.desc).map (fun d => d.parameters.length) = some As.length) (hd : d2 + 1 ≤ d) (hm : n2 ≤ 21) (z1 : cells + mc2 ≤ mc) (z2 : slots + ms2 ≤ ms) (hst : (st.map fun v => v.category).sum ≤ 8) {st0 : List Value} (hst0 : st0 = As.reverse ++ st) (dg : decode cc pc = .ok (.invokestatic ix, 3)) (e : pc + 3 = q)
    (kk : ∀ (v : Option Value) (w' : wd_T), Φ v w' → V g k nL w' (cells + mc2) (slots + ms2) Q q lv (v.toList ++ st)) : V g k nL w cells slots Q pc lv st0 := by
  subst e hst0
  intro H locs ls ⟨ws, hP, hD, hw, hS⟩ h2 h3
  have hts := C.2.2.2.2.1
  have hG : GoodIn GW (va_wsS own ix y (Cond.codeWith y bytes n2 rt2 hh :: GW)) := fun w9 hw9 => by
    have hm9 : w9 ∈ GW := by
      unfold va_wsS at hw9
      rcases List.mem_append.mp hw9 with h | h
      · rcases List.mem_cons.mp h with rfl | h
        · exact hlink
        rcases List.mem_cons.mp h with rfl | h
        · exact hin
        rcases List.mem_cons.mp h with rfl | h
        · exact hini
        · exact absurd h List.not_mem_nil
      · rcases List.mem_cons.mp h with rfl | h
        · exact hcode
        · exact h
    exact ⟨hm9, gw_good hm9⟩
  have cw : vx_CSW (kxR k) (kxs k) (kxa k) own ix y bytes n2 rt2 hh (Cond.codeWith y bytes n2 rt2 hh :: GW) (rmd d2 mc2 ms2) mc2 ms2 As.length := vx_cwSW As.length hts hG rfl rfl rfl ⟨hmh.1, hmh.2, hpar⟩ ⟨Nat.le_trans hd C.2.2.2.2.2.2.2.2.1, by have := C.2.2.2.2.2.2.2.2.2.1; show 8 + (n2 + 11) + 40 * d2 ≤ _; omega⟩
  exact go_run (vx_runSW (As := As) (rest := st) ⟨C.1, C.2.1, C.2.2.1, C.2.2.2.1, C.2.2.2.2.1⟩ hM cw ⟨PreX_blind, fun U hU hW => ⟨⟨rfl, by rw [hU]; exact ⟨ws, hP, hD, hw, hS⟩, C.2.2.2.2.2.2.1.warm hW⟩, hX.moved hW.alike⟩⟩ rfl rfl h3.1 rfl (lv_room hst) dg ⟨Nat.le_trans z1 C.2.2.2.2.2.2.2.2.2.2.1, Nat.le_trans z2 C.2.2.2.2.2.2.2.2.2.2.2⟩) h2 h3 kk
theorem q603 : Cond.codeWith yL_byteAt cL_byteAt 5 (some .int) [(0, 10, 13, 13)] ∈ GW := gw_t 603 (by decide +kernel) (by decide +kernel)
set_option maxHeartbeats 4000000 in
set_option maxRecDepth 20000 in
theorem x_byt_y {l : Launch} {g : cx_G} {w : wd_T} {c a0 tk gN rN tN : Nat} {fn wn : Nat → Nat} {gp by9 rD tD tV tT : Nat → Int32} (hT : TcAt g w a0 tk gN rN tN fn wn gp by9 rD tD tV tT) (hI : Iv9 c tk gN rN tN fn wn by9 tD tV tT) {k9 : Nat} (hk9 : k9 < rN) {i : Nat} (hi : i < 73) : Mt l g yX7_byteAt cX7_byteAt 4 (some .int) 4 0 0 w [.ref a0, .int (nI k9), .int (nI i)] (fun v w' => v = some (.int (by9 (73 * k9 + i) &&& nI 255)) ∧ TcAt g w' a0 tk gN rN tN fn wn gp by9 rD tD tV tT ∧ Fl w w') := by
  refine mt_of RX7 "byteAt" rfl rfl (by decide) (Nat.le_of_ble_eq_true rfl) [(0, .ref a0), (1, .int (nI k9)), (2, .int (nI i))] rfl ?_
  intro k hkl C hin
  subst hkl
  have hTk := hT
  obtain ⟨a1, alb, alk, asp, a3, alr, asu, alv, af, asg, elb, elk, er, ab, gp9, T, t0, t1, t2, t3, t4, t5, t6, t7, t8⟩ := hTk
  obtain ⟨i0, i1, i2, i3, i4, i5, i6, i7, i8, i9, i10⟩ := id hI
  obtain ⟨⟨wr, r0⟩, fb, r1, r2⟩ := t6.2.2.1 k9 hk9
  have r1' : w (2000 + 2 * k9 + 1) = some (ab k9, aB g 73 fb) := by rw [show 2000 + 2 * k9 + 1 = 2001 + 2 * k9 by omega]; exact r1
  refine r_aload_n (q := 1) C 0 dX7_byteAt_0 rfl rfl ?_
  refine r_get (q := 4) (t := 100) C koX7 t0 5 (by decide) q130 rfl rfl dX7_byteAt_1 rfl ?_
  refine r_iload_n (q := 5) C 1 dX7_byteAt_4 rfl rfl ?_
  refine r_callV (q := 8) (t := 103) (As := [.int (nI k9)]) (st := []) C koX0 t6.1 (c_find_y t6 (by omega) hk9) q341 q555 q339 q340 q6 rfl ⟨by decide, by decide⟩ (show (parseMethodDescriptor yX0_find.desc).map (fun d => d.parameters.length) = some 1 by decide +kernel) (by decide) (by decide) (by decide) (by decide) (Nat.le_of_ble_eq_true rfl) rfl dX7_byteAt_5 rfl ?_
  rintro v9 w1 ⟨rfl, rfl⟩
  show V g k 4 w 0 0 (kQ g k (fun v w' => v = some (.int (by9 (73 * k9 + i) &&& nI 255)) ∧ TcAt g w' a0 tk gN rN tN fn wn gp by9 rD tD tV tT ∧ Fl w w') 0 0) 8 [(0, .ref a0), (1, .int (nI k9)), (2, .int (nI i))] [.ref (er k9)]
  refine r_astore_n (q := 9) (lv' := [(3, .ref (er k9)), (0, .ref a0), (1, .int (nI k9)), (2, .int (nI i))]) C dX7_byteAt_8 (by decide) rfl rfl ?_
  refine r_aload_n (q := 10) C 0 dX7_byteAt_9 rfl rfl ?_
  refine r_ifnull (q := 13) C dX7_byteAt_10 rfl ?_
  refine r_aload_n (q := 14) C 0 dX7_byteAt_13 rfl rfl ?_
  refine r_iload_n (q := 15) C 3 dX7_byteAt_14 rfl rfl ?_
  refine r_callV (q := 18) (t := (2000 + 2 * k9)) (As := [.int (nI i)]) (st := []) C koX2 r0 (c_has_y r0 r1' hi) q563 q681 q561 q562 q18 rfl ⟨by decide, by decide⟩ (show (parseMethodDescriptor yX2_has.desc).map (fun d => d.parameters.length) = some 1 by decide +kernel) (by decide) (by decide) (by decide) (by decide) (Nat.le_of_ble_eq_true rfl) rfl dX7_byteAt_15 rfl ?_
  rintro v9 w2 ⟨rfl, rfl⟩
  show V g k 4 w 0 0 (kQ g k (fun v w' => v = some (.int (by9 (73 * k9 + i) &&& nI 255)) ∧ TcAt g w' a0 tk gN rN tN fn wn gp by9 rD tD tV tT ∧ Fl w w') 0 0) 18 [(3, .ref (er k9)), (0, .ref a0), (1, .int (nI k9)), (2, .int (nI i))] [.int (nI 1)]
  refine r_if_ne_t (tgt := 31) C dX7_byteAt_18 (by decide) (by decide) ?_
  refine r_aload_n (q := 32) C 0 dX7_byteAt_31 rfl rfl ?_
  refine r_iload_n (q := 33) C 3 dX7_byteAt_32 rfl rfl ?_
  refine r_callV (q := 36) (t := (2000 + 2 * k9)) (As := [.int (nI i)]) (st := []) C koX2 r0 (c_val_y r0 r1' hi) q571 q568 q569 q570 q18 rfl ⟨by decide, by decide⟩ (show (parseMethodDescriptor yX2_value.desc).map (fun d => d.parameters.length) = some 1 by decide +kernel) (by decide) (by decide) (by decide) (by decide) (Nat.le_of_ble_eq_true rfl) rfl dX7_byteAt_33 rfl ?_
  rintro v9 w3 ⟨rfl, rfl⟩
  show V g k 4 w 0 0 (kQ g k (fun v w' => v = some (.int (by9 (73 * k9 + i) &&& nI 255)) ∧ TcAt g w' a0 tk gN rN tN fn wn gp by9 rD tD tV tT ∧ Fl w w') 0 0) 36 [(3, .ref (er k9)), (0, .ref a0), (1, .int (nI k9)), (2, .int (nI i))] [.int (fb i &&& nI 255)]
  exact r_iret C rfl (by decide) (by decide) dX7_byteAt_36 ⟨by rw [r2 _ hi], hT, Fl.rfl'⟩

set_option maxHeartbeats 4000000 in
set_option maxRecDepth 20000 in
theorem x_byt_n {l : Launch} {g : cx_G} {w : wd_T} {c a0 tk gN rN tN : Nat} {fn wn : Nat → Nat} {gp by9 rD tD tV tT : Nat → Int32} (hT : TcAt g w a0 tk gN rN tN fn wn gp by9 rD tD tV tT) (hI : Iv9 c tk gN rN tN fn wn by9 tD tV tT) (hlt : l.stackTraces = false) {x : Int32} (hx : x < 0 ∨ nI rN ≤ x) {y : Int32} : MtX l g yX7_byteAt cX7_byteAt 4 (some .int) 8 1 6 w [.ref a0, .int x, .int y] := by
  refine mtx_of RX7 rfl (by decide) (Nat.le_of_ble_eq_true rfl) [(0, .ref a0), (1, .int x), (2, .int y)] rfl ?_
  intro k hkl C hkx htb hh0
  subst hkl
  have hTk := hT
  obtain ⟨a1, alb, alk, asp, a3, alr, asu, alv, af, asg, elb, elk, er, ab, gp9, T, t0, t1, t2, t3, t4, t5, t6, t7, t8⟩ := hTk
  obtain ⟨i0, i1, i2, i3, i4, i5, i6, i7, i8, i9, i10⟩ := id hI
  refine r_aload_n (q := 1) C 0 dX7_byteAt_0 rfl rfl ?_
  refine r_get (q := 4) (t := 100) C koX7 t0 5 (by decide) q130 rfl rfl dX7_byteAt_1 rfl ?_
  refine r_iload_n (q := 5) C 1 dX7_byteAt_4 rfl rfl ?_
  refine r_callV (q := 8) (t := 103) (As := [.int x]) (st := []) C koX0 t6.1 (c_find_n t6 (by omega) hx) q341 q555 q339 q340 q6 rfl ⟨by decide, by decide⟩ (show (parseMethodDescriptor yX0_find.desc).map (fun d => d.parameters.length) = some 1 by decide +kernel) (by decide) (by decide) (by decide) (by decide) (Nat.le_of_ble_eq_true rfl) rfl dX7_byteAt_5 rfl ?_
  rintro v9 w1 ⟨rfl, rfl⟩
  show V g k 4 w 0 0 (vx_MQ (kxb k) (fun _ _ _ _ => False) (XC9 g w) (kxa k) (kxs k) 1 6 (cx_A g)) 8 [(0, .ref a0), (1, .int x), (2, .int y)] [.null]
  refine r_astore_nN (q := 9) (lv' := [(3, .null), (0, .ref a0), (1, .int x), (2, .int y)]) C dX7_byteAt_8 (by decide) rfl rfl ?_
  refine r_aload_nN (q := 10) C 0 dX7_byteAt_9 rfl rfl ?_
  refine r_ifnullN (tgt := 21) C dX7_byteAt_10 (by decide) ?_
  exact r_throwS C hlt htb hkx hh0 (by decide) (by decide) (by decide)

set_option maxHeartbeats 4000000 in
set_option maxRecDepth 20000 in
theorem x_byt_i {l : Launch} {g : cx_G} {w : wd_T} {c a0 tk gN rN tN : Nat} {fn wn : Nat → Nat} {gp by9 rD tD tV tT : Nat → Int32} (hT : TcAt g w a0 tk gN rN tN fn wn gp by9 rD tD tV tT) (hI : Iv9 c tk gN rN tN fn wn by9 tD tV tT) (hlt : l.stackTraces = false) {k9 : Nat} (hk9 : k9 < rN) {y : Int32} (hy : y < 0 ∨ nI 73 ≤ y) : MtX l g yX7_byteAt cX7_byteAt 4 (some .int) 8 1 6 w [.ref a0, .int (nI k9), .int y] := by
  refine mtx_of RX7 rfl (by decide) (Nat.le_of_ble_eq_true rfl) [(0, .ref a0), (1, .int (nI k9)), (2, .int y)] rfl ?_
  intro k hkl C hkx htb hh0
  subst hkl
  have hTk := hT
  obtain ⟨a1, alb, alk, asp, a3, alr, asu, alv, af, asg, elb, elk, er, ab, gp9, T, t0, t1, t2, t3, t4, t5, t6, t7, t8⟩ := hTk
  obtain ⟨i0, i1, i2, i3, i4, i5, i6, i7, i8, i9, i10⟩ := id hI
  obtain ⟨⟨wr, r0⟩, fb, r1, r2⟩ := t6.2.2.1 k9 hk9
  have r1' : w (2000 + 2 * k9 + 1) = some (ab k9, aB g 73 fb) := by rw [show 2000 + 2 * k9 + 1 = 2001 + 2 * k9 by omega]; exact r1
  refine r_aload_n (q := 1) C 0 dX7_byteAt_0 rfl rfl ?_
  refine r_get (q := 4) (t := 100) C koX7 t0 5 (by decide) q130 rfl rfl dX7_byteAt_1 rfl ?_
  refine r_iload_n (q := 5) C 1 dX7_byteAt_4 rfl rfl ?_
  refine r_callV (q := 8) (t := 103) (As := [.int (nI k9)]) (st := []) C koX0 t6.1 (c_find_y t6 (by omega) hk9) q341 q555 q339 q340 q6 rfl ⟨by decide, by decide⟩ (show (parseMethodDescriptor yX0_find.desc).map (fun d => d.parameters.length) = some 1 by decide +kernel) (by decide) (by decide) (by decide) (by decide) (Nat.le_of_ble_eq_true rfl) rfl dX7_byteAt_5 rfl ?_
  rintro v9 w1 ⟨rfl, rfl⟩
  show V g k 4 w 0 0 (vx_MQ (kxb k) (fun _ _ _ _ => False) (XC9 g w) (kxa k) (kxs k) 1 6 (cx_A g)) 8 [(0, .ref a0), (1, .int (nI k9)), (2, .int y)] [.ref (er k9)]
  refine r_astore_n (q := 9) (lv' := [(3, .ref (er k9)), (0, .ref a0), (1, .int (nI k9)), (2, .int y)]) C dX7_byteAt_8 (by decide) rfl rfl ?_
  refine r_aload_n (q := 10) C 0 dX7_byteAt_9 rfl rfl ?_
  refine r_ifnull (q := 13) C dX7_byteAt_10 rfl ?_
  refine r_aload_n (q := 14) C 0 dX7_byteAt_13 rfl rfl ?_
  refine r_iload_n (q := 15) C 3 dX7_byteAt_14 rfl rfl ?_
  refine r_callV (q := 18) (t := (2000 + 2 * k9)) (As := [.int y]) (st := []) C koX2 r0 (c_has_n r0 r1' hy) q563 q681 q561 q562 q18 rfl ⟨by decide, by decide⟩ (show (parseMethodDescriptor yX2_has.desc).map (fun d => d.parameters.length) = some 1 by decide +kernel) (by decide) (by decide) (by decide) (by decide) (Nat.le_of_ble_eq_true rfl) rfl dX7_byteAt_15 rfl ?_
  rintro v9 w2 ⟨rfl, rfl⟩
  show V g k 4 w 0 0 (vx_MQ (kxb k) (fun _ _ _ _ => False) (XC9 g w) (kxa k) (kxs k) 1 6 (cx_A g)) 18 [(3, .ref (er k9)), (0, .ref a0), (1, .int (nI k9)), (2, .int y)] [.int (nI 0)]
  refine r_if_ne_f (q := 21) (tgt := 31) C dX7_byteAt_18 (by decide) rfl (by decide) ?_
  exact r_throwS C hlt htb hkx hh0 (by decide) (by decide) (by decide)
