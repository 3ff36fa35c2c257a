/-! lists of objects: the JDK's ArrayList over a world -/
section RW3
variable {g : cx_G} {k : kx_T} {own : String} {cc : ByteArray} {nL : Nat} {rt : Option FieldType} {d mc ms : Nat} {w w' : wd_T} {cells slots : Nat} {Q : State → Prop} {pc q : Nat} {lv lv' : List (Nat × Value)} {st : List Value}
/-- an object of a world whose class the tables let be cast to Object -/
def el_ok (w : wd_T) (x : Nat) : Prop := ∃ (t ci N : Nat) (fs : List Value) (CN : String) (T : u_T) (ty : Nat → FieldType), w t = some (x, ob ci fs) ∧ KO ci CN T N ty ∧ Cond.castable CN "java/lang/Object" ∈ NW
theorem el_any {s : State} {H : Heap} {ws : va_W} {x : Nat} (hk : kn_ok g s) (hP : va_P g.1 classes ws H) (hw : wl_ok w ws) (h : el_ok w x) : va_Any "java/lang/Object" s H x := by
  obtain ⟨t, ci, N, fs, CN, T, ty, h1, h2, h3⟩ := h
  obtain ⟨i, hi⟩ := hw.1 _ _ _ h1
  refine va_rAny (q0 := i) hk.1 hP hi h2.1 (fun comp c0 e1 e2 => ?_)
  obtain ⟨c1, t1, f1, f2, f3⟩ := Cond.castable_spec (args := #[]) (va_Nw.use (nw_onT (nw_in h3)) (hk.2.2 _ h3))
  cases e1.symm.trans f2
  cases e2.symm.trans f1
  exact f3
theorem r_aast (C : Cx g k own cc nL rt d mc ms) {t a n x : Nat} {i : Int32} {f : Nat → Option Nat} (ht : w t = some (a, aO g n f)) (hx : el_ok w x) (j : Nat) (hi : i = nI j) (hj : j < n) (hn : n < 2 ^ 31) (dg : decode cc pc = .ok (.aastore, 1)) (e : pc + 1 = q) (ew : wd_set w t a (aO g n (va_up f j (some x))) = w') (kk : V g k nL w' cells slots Q q lv st) : V g k nL w cells slots Q pc lv (.ref x :: .int i :: .ref a :: st) := by
  subst e hi ew
  intro H locs ls ⟨ws, hP, hD, hw, hS⟩ h2 h3
  obtain ⟨i9, hi9⟩ := hw.1 _ _ _ ht
  refine va_astqM C.1 C.2.1 C.2.2.2.2.2.2.1.1 hP hD (S_locs hS h2) i9 3 hi9 rfl (el_any C.2.2.2.2.2.2.1 hP hw hx) (vp_in_nI hj hn) dg ?_
  rw [nI_clamp (Nat.lt_trans hj hn)]
  exact fun H1 locs1 hP1 hD1 hS1 => kk H1 locs1 ls ⟨_, hP1, hD1, wl_set hw hD ht hi9, S_nil hS1⟩ hS1.2.2 h3
theorem r_copyq (C : Cx g k own cc nL rt d mc ms) {t0 t1 a0 a1 n0 n1 ix : Nat} {f f1 : Nat → Option Nat} {sp dp n : Int32} (ht0 : w t0 = some (a0, aO g n0 f)) (ht1 : w t1 = some (a1, aO g n1 f1)) (hlink : Cond.methodLink own ix arraycopyName ∈ GW) (hnat : Cond.native arraycopyName ∈ GW) (hstat : Cond.static arraycopyName ∈ GW) (hini : Cond.initialized "java/lang/System" ∈ GW) (js jd jn : Nat) (e1 : sp = nI js) (e2 : dp = nI jd) (e3 : n = nI jn) (z1 : js + jn ≤ n0) (z2 : jd + jn ≤ n1) (z3 : n0 < 2 ^ 31) (z4 : n1 < 2 ^ 31) (hel : ∀ i, i < jn → ∀ y, f (js + i) = some y → el_ok w y) (hfr : 1 ≤ d) (hst : (st.map fun v => v.category).sum ≤ 8) (dg : decode cc pc = .ok (.invokestatic ix, 3)) (e : pc + 3 = q) (ew : wd_set w t1 a1 (aO g n1 (va_cpy f f1 js jd jn)) = w') (kk : V g k nL w' cells slots Q q lv st) : V g k nL w cells slots Q pc lv (.int n :: .int dp :: .ref a1 :: .int sp :: .ref a0 :: st) := by
  subst e ew e1 e2 e3
  intro H locs ls ⟨ws, hP, hD, hw, hS⟩ h2 h3
  obtain ⟨i0, hi0⟩ := hw.1 _ _ _ ht0
  obtain ⟨i1, hi1⟩ := hw.1 _ _ _ ht1
  have c1 : (nI js).toNatClampNeg = js := nI_clamp (by omega)
  have c2 : (nI jd).toNatClampNeg = jd := nI_clamp (by omega)
  have c3 : (nI jn).toNatClampNeg = jn := nI_clamp (by omega)
  have hl9 : 40 * d ≤ (kxR k).locals := C.2.2.2.2.2.2.2.2.2.1
  have hwd : nativeFrameWords "java/lang/System" "arraycopy" 5 ≤ 20 := by decide
  have hts := C.2.2.2.2.1
  refine va_copyM C.1 C.2.1 (C.2.2.1.trans h3.1.symm) C.2.2.2.1 (hts _ hlink) (hts _ hnat) (hts _ hstat) (hts _ hini) C.2.2.2.2.2.2.1.1 hP hD (S_locs hS h2) i0 i1 3 3 hi0 hi1 rfl rfl (nI_pos (by omega)) (nI_pos (by omega)) (nI_pos (by omega)) (by rw [c1, c3]; exact z1) (by rw [c2, c3]; exact z2) (by rw [c1, c3]; exact fun i hi y hy => el_any C.2.2.2.2.2.2.1 hP hw (hel i hi y hy)) (Nat.le_trans hfr C.2.2.2.2.2.2.2.2.1) (by omega) dg ?_
  rw [c1, c2, c3]
  exact fun H1 locs1 hP1 hD1 hS1 => kk H1 locs1 ls ⟨_, hP1, hD1, wl_set hw hD ht1 hi1, S_nil hS1⟩ hS1.2.2 h3
theorem r_mmax (C : Cx g k own cc nL rt d mc ms) {x y : Int32} {ix : Nat} (hlink : Cond.methodLink own ix Lib.Math.max.name ∈ GW) (hstat : Cond.static Lib.Math.max.name ∈ GW) (hini : Cond.initialized "java/lang/Math" ∈ GW) (hcode : Cond.code Lib.Math.max.name Lib.Math.max.code 2 (some .int) ∈ GW) (hfr : 1 ≤ d) (hst : (st.map fun v => v.category).sum ≤ 8) (z1 : cells ≤ mc) (z2 : slots ≤ ms) (dg : decode cc pc = .ok (.invokestatic ix, 3)) (e : pc + 3 = q) (kk : V g k nL w cells slots Q q lv (.int (if x < y then y else x) :: st)) : V g k nL w cells slots Q pc lv (.int y :: .int x :: st) := by
  subst e
  intro H locs ls h1 h2 h3
  have hts := C.2.2.2.2.1
  have hl9 : 40 * d ≤ (kxR k).locals := C.2.2.2.2.2.2.2.2.2.1
  exact va_mmax C.1 C.2.1 (C.2.2.1.trans h3.1.symm) C.2.2.2.1 (hts _ hlink) (hts _ hstat) (hts _ hini) (hts _ hcode) (Nat.le_trans hfr C.2.2.2.2.2.2.2.2.1) (by omega) (Nat.le_trans z1 C.2.2.2.2.2.2.2.2.2.2.1) (Nat.le_trans z2 C.2.2.2.2.2.2.2.2.2.2.2) dg (kk H locs ls h1 h2 h3)
theorem r_mmin (C : Cx g k own cc nL rt d mc ms) {x y : Int32} {ix : Nat} (hlink : Cond.methodLink own ix Lib.Math.min.name ∈ GW) (hstat : Cond.static Lib.Math.min.name ∈ GW) (hini : Cond.initialized "java/lang/Math" ∈ GW) (hcode : Cond.code Lib.Math.min.name Lib.Math.min.code 2 (some .int) ∈ GW) (hfr : 1 ≤ d) (hst : (st.map fun v => v.category).sum ≤ 8) (z1 : cells ≤ mc) (z2 : slots ≤ ms) (dg : decode cc pc = .ok (.invokestatic ix, 3)) (e : pc + 3 = q) (kk : V g k nL w cells slots Q q lv (.int (if y < x then y else x) :: st)) : V g k nL w cells slots Q pc lv (.int y :: .int x :: st) := by
  subst e
  intro H locs ls h1 h2 h3
  have hts := C.2.2.2.2.1
  have hl9 : 40 * d ≤ (kxR k).locals := C.2.2.2.2.2.2.2.2.2.1
  exact va_mmin C.1 C.2.1 (C.2.2.1.trans h3.1.symm) C.2.2.2.1 (hts _ hlink) (hts _ hstat) (hts _ hini) (hts _ hcode) (Nat.le_trans hfr C.2.2.2.2.2.2.2.2.1) (by omega) (Nat.le_trans z1 C.2.2.2.2.2.2.2.2.2.2.1) (Nat.le_trans z2 C.2.2.2.2.2.2.2.2.2.2.2) dg (kk H locs ls h1 h2 h3)
theorem r_getC (C : Cx g k own cc nL rt d mc ms) {t a n ix : Nat} {f : Nat → Option Nat} (ht : w t = some (a, aO g n f)) (hlink : Cond.methodLink own ix ⟨"java/lang/Object", "getClass", "()Ljava/lang/Class;"⟩ ∈ GW) (hdecl : Cond.declares ⟨"java/lang/Object", "getClass", "()Ljava/lang/Class;"⟩ ∈ NW) (hsel : Cond.selects "[Ljava/lang/Object;" ⟨"java/lang/Object", "getClass", "()Ljava/lang/Class;"⟩ ⟨"java/lang/Object", "getClass", "()Ljava/lang/Class;"⟩ ∈ GW) (hin : Cond.instanceMethod ⟨"java/lang/Object", "getClass", "()Ljava/lang/Class;"⟩ ∈ GW) (hnat : Cond.native ⟨"java/lang/Object", "getClass", "()Ljava/lang/Class;"⟩ ∈ GW) (hfr : 1 ≤ d) (hst : (st.map fun v => v.category).sum ≤ 8) (dg : decode cc pc = .ok (.invokevirtual ix, 3)) (e : pc + 3 = q) (kk : V g k nL w cells slots Q q lv (.ref (gsM g) :: st)) : V g k nL w cells slots Q pc lv (.ref a :: st) := by
  subst e
  intro H locs ls ⟨ws, hP, hD, hw, hS⟩ h2 h3
  obtain ⟨i9, hi9⟩ := hw.1 _ _ _ ht
  have hts := C.2.2.2.2.1
  have hl9 : 40 * d ≤ (kxR k).locals := C.2.2.2.2.2.2.2.2.2.1
  have hkn := C.2.2.2.2.2.2.1
  exact va_getC C.1 C.2.1 (C.2.2.1.trans h3.1.symm) C.2.2.2.1 (hts _ hlink) (va_Nw.use (nw_onT (nw_in hdecl)) (hkn.2.2 _ hdecl)) (hts _ hsel) (hts _ hin) (hts _ hnat) hkn.2.1.2.2.2.2.2.2.2.2.2.2.2.2.2.2.2.1 ⟨_, hP i9 _ hi9, rfl, va_nmO (hkn.1.2 3 _ rfl).2 (by decide +kernel)⟩ (Nat.le_trans hfr C.2.2.2.2.2.2.2.2.1) (by omega) dg (kk H locs ls ⟨ws, hP, hD, hw, hS⟩ h2 h3)
theorem r_ldcM (C : Cx g k own cc nL rt d mc ms) {ix : Nat} (hlink : Cond.classLink own ix "[Ljava/lang/Object;" ∈ GW) (dg : decode cc pc = .ok (.ldc ix, 2)) (e : pc + 2 = q) (kk : V g k nL w cells slots Q q lv (.ref (gsM g) :: st)) : V g k nL w cells slots Q pc lv st := by
  subst e
  intro H locs ls h1 h2 h3
  exact va_ldcM C.1 C.2.1 C.2.2.2.1 (C.2.2.2.2.1 _ hlink) C.2.2.2.2.2.2.1.2.1.2.2.2.2.2.2.2.2.2.2.2.2.2.2.2.1 dg (kk H locs ls h1 h2 h3)
end RW3
theorem el_fr {w w' : wd_T} {lo hi x : Nat} (hfr : Fr w w' lo hi) (h : el_ok w x) (hn : ∀ t a n f, lo ≤ t → t < hi → w t ≠ some (x, ob n f) ∨ w' t = some (a, ob n f)) : el_ok w x := h
