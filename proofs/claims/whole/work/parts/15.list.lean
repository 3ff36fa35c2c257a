/-! lists of objects: the JDK's ArrayList over a world -/
section RW3
variable {g : cx_G} {k : kx_T} {own : String} {cc : ByteArray} {nL : Nat} {rt : Option FieldType} {d mc ms : Nat} {w w' : wd_T} {cells slots : Nat} {Q : State → Prop} {pc q : Nat} {lv lv' : List (Nat × Value)} {st : List Value}
/-- an object of a world whose class the tables let be cast to Object -/
def el_ok (w : wd_T) (x : Nat) : Prop := ∃ (t ci N : Nat) (fs : List Value) (CN : String) (T : u_T) (ty : Nat → FieldType), w t = some (x, ob ci fs) ∧ KO ci CN T N ty ∧ Cond.castable CN "java/lang/Object" ∈ NW
theorem el_any {s : State} {H : Heap} {ws : va_W} {x : Nat} (hk : kn_ok g s) (hP : va_P g.1 classes ws H) (hw : wl_ok w ws) (h : el_ok w x) : va_Any "java/lang/Object" s H x := by
  obtain ⟨t, ci, N, fs, CN, T, ty, h1, h2, h3⟩ := h
  obtain ⟨i, hi⟩ := hw.1 _ _ _ h1
  refine va_rAny (q0 := i) hk.1 hP hi h2.1 (fun comp c0 e1 e2 => ?_)
  obtain ⟨c1, t1, f1, f2, f3⟩ := Cond.castable_spec (args := #[]) (va_Nw.use (nw_onT (nw_in h3)) (hk.2.2 _ h3))
  cases e1.symm.trans f2
  cases e2.symm.trans f1
  exact f3
theorem r_aast (C : Cx g k own cc nL rt d mc ms) {t a n x : Nat} {i : Int32} {f : Nat → Option Nat} (ht : w t = some (a, aO g n f)) (hx : el_ok w x) (j : Nat) (hi : i = nI j) (hj : j < n) (hn : n < 2 ^ 31) (dg : decode cc pc = .ok (.aastore, 1)) (e : pc + 1 = q) (ew : wd_set w t a (aO g n (va_up f j (some x))) = w') (kk : V g k nL w' cells slots Q q lv st) : V g k nL w cells slots Q pc lv (.ref x :: .int i :: .ref a :: st) := by
  subst e hi ew
  intro H locs ls ⟨ws, hP, hD, hw, hS⟩ h2 h3
  obtain ⟨i9, hi9⟩ := hw.1 _ _ _ ht
  refine va_astqM C.1 C.2.1 C.2.2.2.2.2.2.1.1 hP hD (S_locs hS h2) i9 3 hi9 rfl (el_any C.2.2.2.2.2.2.1 hP hw hx) (vp_in_nI hj hn) dg ?_
  rw [nI_clamp (Nat.lt_trans hj hn)]
  exact fun H1 locs1 hP1 hD1 hS1 => kk H1 locs1 ls ⟨_, hP1, hD1, wl_set hw hD ht hi9, S_nil hS1⟩ hS1.2.2 h3
theorem r_copyq (C : Cx g k own cc nL rt d mc ms) {t0 t1 a0 a1 n0 n1 ix : Nat} {f f1 : Nat → Option Nat} {sp dp n : Int32} (ht0 : w t0 = some (a0, aO g n0 f)) (ht1 : w t1 = some (a1, aO g n1 f1)) (hlink : Cond.methodLink own ix arraycopyName ∈ GW) (hnat : Cond.native arraycopyName ∈ GW) (hstat : Cond.static arraycopyName ∈ GW) (hini : Cond.initialized "java/lang/System" ∈ GW) (js jd jn : Nat) (e1 : sp = nI js) (e2 : dp = nI jd) (e3 : n = nI jn) (z1 : js + jn ≤ n0) (z2 : jd + jn ≤ n1) (z3 : n0 < 2 ^ 31) (z4 : n1 < 2 ^ 31) (hel : ∀ i, i < jn → ∀ y, f (js + i) = some y → el_ok w y) (hfr : 1 ≤ d) (hst : (st.map fun v => v.category).sum ≤ 8) (dg : decode cc pc = .ok (.invokestatic ix, 3)) (e : pc + 3 = q) (ew : wd_set w t1 a1 (aO g n1 (va_cpy f f1 js jd jn)) = w') (kk : V g k nL w' cells slots Q q lv st) : V g k nL w cells slots Q pc lv (.int n :: .int dp :: .ref a1 :: .int sp :: .ref a0 :: st) := by
  subst e ew e1 e2 e3
  intro H locs ls ⟨ws, hP, hD, hw, hS⟩ h2 h3
  obtain ⟨i0, hi0⟩ := hw.1 _ _ _ ht0
  obtain ⟨i1, hi1⟩ := hw.1 _ _ _ ht1
  have c1 : (nI js).toNatClampNeg = js := nI_clamp (by omega)
  have c2 : (nI jd).toNatClampNeg = jd := nI_clamp (by omega)
  have c3 : (nI jn).toNatClampNeg = jn := nI_clamp (by omega)
  have hl9 : 40 * d ≤ (kxR k).locals := C.2.2.2.2.2.2.2.2.2.1
  have hwd : nativeFrameWords "java/lang/System" "arraycopy" 5 ≤ 20 := by decide
  have hts := C.2.2.2.2.1
  refine va_copyM C.1 C.2.1 (C.2.2.1.trans h3.1.symm) C.2.2.2.1 (hts _ hlink) (hts _ hnat) (hts _ hstat) (hts _ hini) C.2.2.2.2.2.2.1.1 hP hD (S_locs hS h2) i0 i1 3 3 hi0 hi1 rfl rfl (nI_pos (by omega)) (nI_pos (by omega)) (nI_pos (by omega)) (by rw [c1, c3]; exact z1) (by rw [c2, c3]; exact z2) (by rw [c1, c3]; exact fun i hi y hy => el_any C.2.2.2.2.2.2.1 hP hw (hel i hi y hy)) (Nat.le_trans hfr C.2.2.2.2.2.2.2.2.1) (by omega) dg ?_
  rw [c1, c2, c3]
  exact fun H1 locs1 hP1 hD1 hS1 => kk H1 locs1 ls ⟨_, hP1, hD1, wl_set hw hD ht1 hi1, S_nil hS1⟩ hS1.2.2 h3
theorem r_mmax (C : Cx g k own cc nL rt d mc ms) {x y : Int32} {ix : Nat} (hlink : Cond.methodLink own ix Lib.Math.max.name ∈ GW) (hstat : Cond.static Lib.Math.max.name ∈ GW) (hini : Cond.initialized "java/lang/Math" ∈ GW) (hcode : Cond.code Lib.Math.max.name Lib.Math.max.code 2 (some .int) ∈ GW) (hfr : 1 ≤ d) (hst : (st.map fun v => v.category).sum ≤ 8) (z1 : cells ≤ mc) (z2 : slots ≤ ms) (dg : decode cc pc = .ok (.invokestatic ix, 3)) (e : pc + 3 = q) (kk : V g k nL w cells slots Q q lv (.int (if x < y then y else x) :: st)) : V g k nL w cells slots Q pc lv (.int y :: .int x :: st) := by
  subst e
  intro H locs ls h1 h2 h3
  have hts := C.2.2.2.2.1
  have hl9 : 40 * d ≤ (kxR k).locals := C.2.2.2.2.2.2.2.2.2.1
  exact va_mmax C.1 C.2.1 (C.2.2.1.trans h3.1.symm) C.2.2.2.1 (hts _ hlink) (hts _ hstat) (hts _ hini) (hts _ hcode) (Nat.le_trans hfr C.2.2.2.2.2.2.2.2.1) (by omega) (Nat.le_trans z1 C.2.2.2.2.2.2.2.2.2.2.1) (Nat.le_trans z2 C.2.2.2.2.2.2.2.2.2.2.2) dg (kk H locs ls h1 h2 h3)
theorem r_mmin (C : Cx g k own cc nL rt d mc ms) {x y : Int32} {ix : Nat} (hlink : Cond.methodLink own ix Lib.Math.min.name ∈ GW) (hstat : Cond.static Lib.Math.min.name ∈ GW) (hini : Cond.initialized "java/lang/Math" ∈ GW) (hcode : Cond.code Lib.Math.min.name Lib.Math.min.code 2 (some .int) ∈ GW) (hfr : 1 ≤ d) (hst : (st.map fun v => v.category).sum ≤ 8) (z1 : cells ≤ mc) (z2 : slots ≤ ms) (dg : decode cc pc = .ok (.invokestatic ix, 3)) (e : pc + 3 = q) (kk : V g k nL w cells slots Q q lv (.int (if y < x then y else x) :: st)) : V g k nL w cells slots Q pc lv (.int y :: .int x :: st) := by
  subst e
  intro H locs ls h1 h2 h3
  have hts := C.2.2.2.2.1
  have hl9 : 40 * d ≤ (kxR k).locals := C.2.2.2.2.2.2.2.2.2.1
  exact va_mmin C.1 C.2.1 (C.2.2.1.trans h3.1.symm) C.2.2.2.1 (hts _ hlink) (hts _ hstat) (hts _ hini) (hts _ hcode) (Nat.le_trans hfr C.2.2.2.2.2.2.2.2.1) (by omega) (Nat.le_trans z1 C.2.2.2.2.2.2.2.2.2.2.1) (Nat.le_trans z2 C.2.2.2.2.2.2.2.2.2.2.2) dg (kk H locs ls h1 h2 h3)
theorem r_getC (C : Cx g k own cc nL rt d mc ms) {t a n ix : Nat} {f : Nat → Option Nat} (ht : w t = some (a, aO g n f)) (hlink : Cond.methodLink own ix ⟨"java/lang/Object", "getClass", "()Ljava/lang/Class;"⟩ ∈ GW) (hdecl : Cond.declares ⟨"java/lang/Object", "getClass", "()Ljava/lang/Class;"⟩ ∈ NW) (hsel : Cond.selects "[Ljava/lang/Object;" ⟨"java/lang/Object", "getClass", "()Ljava/lang/Class;"⟩ ⟨"java/lang/Object", "getClass", "()Ljava/lang/Class;"⟩ ∈ GW) (hin : Cond.instanceMethod ⟨"java/lang/Object", "getClass", "()Ljava/lang/Class;"⟩ ∈ GW) (hnat : Cond.native ⟨"java/lang/Object", "getClass", "()Ljava/lang/Class;"⟩ ∈ GW) (hfr : 1 ≤ d) (hst : (st.map fun v => v.category).sum ≤ 8) (dg : decode cc pc = .ok (.invokevirtual ix, 3)) (e : pc + 3 = q) (kk : V g k nL w cells slots Q q lv (.ref (gsM g) :: st)) : V g k nL w cells slots Q pc lv (.ref a :: st) := by
  subst e
  intro H locs ls ⟨ws, hP, hD, hw, hS⟩ h2 h3
  obtain ⟨i9, hi9⟩ := hw.1 _ _ _ ht
  have hts := C.2.2.2.2.1
  have hl9 : 40 * d ≤ (kxR k).locals := C.2.2.2.2.2.2.2.2.2.1
  have hkn := C.2.2.2.2.2.2.1
  exact va_getC C.1 C.2.1 (C.2.2.1.trans h3.1.symm) C.2.2.2.1 (hts _ hlink) (va_Nw.use (nw_onT (nw_in hdecl)) (hkn.2.2 _ hdecl)) (hts _ hsel) (hts _ hin) (hts _ hnat) hkn.2.1.2.2.2.2.2.2.2.2.2.2.2.2.2.2.2.1 ⟨_, hP i9 _ hi9, rfl, va_nmO (hkn.1.2 3 _ rfl).2 (by decide +kernel)⟩ (Nat.le_trans hfr C.2.2.2.2.2.2.2.2.1) (by omega) dg (kk H locs ls ⟨ws, hP, hD, hw, hS⟩ h2 h3)
theorem r_ldcM (C : Cx g k own cc nL rt d mc ms) {ix : Nat} (hlink : Cond.classLink own ix "[Ljava/lang/Object;" ∈ GW) (dg : decode cc pc = .ok (.ldc ix, 2)) (e : pc + 2 = q) (kk : V g k nL w cells slots Q q lv (.ref (gsM g) :: st)) : V g k nL w cells slots Q pc lv st := by
  subst e
  intro H locs ls h1 h2 h3
  exact va_ldcM C.1 C.2.1 C.2.2.2.1 (C.2.2.2.2.1 _ hlink) C.2.2.2.2.2.2.1.2.1.2.2.2.2.2.2.2.2.2.2.2.2.2.2.2.1 dg (kk H locs ls h1 h2 h3)
theorem r_tv {x y : Value} (e : x = y) (kk : V g k nL w cells slots Q pc lv (y :: st)) : V g k nL w cells slots Q pc lv (x :: st) := e ▸ kk
/-- the cell of one tag under another one; the first is let go -/
def wd_mv (w : wd_T) (a b : Nat) : wd_T := fun t => if t = b then w a else if t = a then none else w t
theorem wl_mv {ws : va_W} {a b : Nat} (h : wl_ok w ws) : wl_ok (wd_mv w a b) ws := by
  have key : ∀ t x e, wd_mv w a b t = some (x, e) → ∃ u, w u = some (x, e) ∧ (t = b ∧ u = a ∨ t ≠ b ∧ t ≠ a ∧ u = t) := by
    intro t x e ht
    unfold wd_mv at ht
    by_cases h1 : t = b
    · rw [if_pos h1] at ht
      exact ⟨a, ht, Or.inl ⟨h1, rfl⟩⟩
    · rw [if_neg h1] at ht
      by_cases h2 : t = a
      · rw [if_pos h2] at ht
        cases ht
      · rw [if_neg h2] at ht
        exact ⟨t, ht, Or.inr ⟨h1, h2, rfl⟩⟩
  refine ⟨fun t x e ht => ?_, fun t1 t2 x e1 e2 h1 h2 => ?_⟩
  · obtain ⟨u, hu, -⟩ := key t x e ht
    exact h.1 u x e hu
  · obtain ⟨u1, g1, z1⟩ := key t1 x e1 h1
    obtain ⟨u2, g2, z2⟩ := key t2 x e2 h2
    have := h.2 _ _ _ _ _ g1 g2
    omega
theorem r_mv (a b : Nat) (kk : V g k nL (wd_mv w a b) cells slots Q pc lv st) : V g k nL w cells slots Q pc lv st := fun H locs ls ⟨ws, hP, hD, hw, hS⟩ h2 h3 => kk H locs ls ⟨ws, hP, hD, wl_mv hw, hS⟩ h2 h3
theorem mv_to {a b : Nat} : wd_mv w a b b = w a := if_pos rfl
theorem mv_ne {a b t : Nat} (h1 : t ≠ b) (h2 : t ≠ a) : wd_mv w a b t = w t := by
  unfold wd_mv
  rw [if_neg h1, if_neg h2]
end RW3
/-- an object at a tag, of a class that may be cast to Object -/
def el_at (w : wd_T) (t x : Nat) : Prop := ∃ (ci N : Nat) (fs : List Value) (CN : String) (T : u_T) (ty : Nat → FieldType), w t = some (x, ob ci fs) ∧ KO ci CN T N ty ∧ Cond.castable CN "java/lang/Object" ∈ NW
theorem el_at.ok {w : wd_T} {t x : Nat} (h : el_at w t x) : el_ok w x := by
  obtain ⟨ci, N, fs, CN, T, ty, h1, h2, h3⟩ := h
  exact ⟨t, ci, N, fs, CN, T, ty, h1, h2, h3⟩
theorem el_at.kept {w w' : wd_T} {t x : Nat} (h : el_at w t x) (e : w' t = w t) : el_at w' t x := by
  obtain ⟨ci, N, fs, CN, T, ty, h1, h2, h3⟩ := h
  exact ⟨ci, N, fs, CN, T, ty, e.trans h1, h2, h3⟩
/-- a list of n objects el j, at the tags tg j; the list itself takes tags tl .. tl + 2 -/
def LsAt (g : cx_G) (w : wd_T) (tl al n : Nat) (el tg : Nat → Nat) : Prop := ∃ (m9 : Int32) (ae : Nat), w tl = some (al, ob 9 [.int m9, .ref ae, .int (nI n)]) ∧
  ((n = 0 ∧ ae = gsE g) ∨ ∃ (cap : Nat) (fq : Nat → Option Nat), w (tl + 1) = some (ae, aO g cap fq) ∧ n ≤ cap ∧ 10 ≤ cap ∧ cap ≤ 2 * n + 10 ∧ ∀ j, j < n → fq j = some (el j)) ∧
  ∀ j, j < n → el_at w (tg j) (el j) ∧ (tg j < tl ∨ tl + 3 ≤ tg j)
theorem LsAt.kept {g : cx_G} {w w' : wd_T} {tl al n : Nat} {el tg : Nat → Nat} (h : LsAt g w tl al n el tg) (h0 : w' tl = w tl) (h1 : w' (tl + 1) = w (tl + 1)) (h2 : ∀ j, j < n → el_at w (tg j) (el j) → el_at w' (tg j) (el j)) : LsAt g w' tl al n el tg := by
  obtain ⟨m9, ae, e0, e1, e2⟩ := h
  refine ⟨m9, ae, h0.trans e0, ?_, fun j hj => ⟨h2 j hj (e2 j hj).1, (e2 j hj).2⟩⟩
  rcases e1 with e1 | ⟨cap, fq, e1, e3⟩
  · exact Or.inl e1
  · exact Or.inr ⟨cap, fq, h1.trans e1, e3⟩

set_option maxHeartbeats 4000000 in
set_option maxRecDepth 20000 in
theorem c_ACinit {l : Launch} {g : cx_G} {w : wd_T} {a : Nat} : Mt l g yJxa1e45_init_da8c8 cJxa1e45_init_da8c8 1 none 1 0 0 w [.ref a] (fun v w' => v = none ∧ w = w') := by
  refine mt_of RJxa1e45 "<init>" rfl rfl (by decide) (Nat.le_of_ble_eq_true rfl) [(0, .ref a)] rfl ?_
  intro k hkl C hin
  subst hkl
  refine r_aload_n C 0 dJxa1e45_init_da8c8_0 rfl rfl ?_
  refine r_objI C q52 q33 q34 (by decide) (Nat.le_of_ble_eq_true rfl) dJxa1e45_init_da8c8_1 rfl ?_
  exact r_vret C rfl (by decide) (by decide) dJxa1e45_init_da8c8_4 ⟨rfl, rfl⟩

set_option maxHeartbeats 4000000 in
set_option maxRecDepth 20000 in
theorem c_ABinit {l : Launch} {g : cx_G} {w : wd_T} {a t : Nat} {m9 : Int32} (h0 : w t = some (a, ob 9 [.int m9, .null, .int 0])) : Mt l g yJxc12de_init_da8c8 cJxc12de_init_da8c8 1 none 2 0 0 w [.ref a] (fun v w' => v = none ∧ w' t = some (a, ob 9 [.int (nI 0), .null, .int 0]) ∧ Fr w w' t (t + 1)) := by
  refine mt_of RJxc12de "<init>" rfl rfl (by decide) (Nat.le_of_ble_eq_true rfl) [(0, .ref a)] rfl ?_
  intro k hkl C hin
  subst hkl
  refine r_aload_n C 0 dJxc12de_init_da8c8_0 rfl rfl ?_
  refine r_callI (As := []) (st := []) C (c_ACinit) q51 q49 q50 q3 rfl ⟨by decide, by decide⟩ (show (parseMethodDescriptor yJxa1e45_init_da8c8.desc).map (fun d => d.parameters.length) = some 0 by decide +kernel) (by decide) (by decide) (by decide) (by decide) (Nat.le_of_ble_eq_true rfl) rfl dJxc12de_init_da8c8_1 rfl ?_
  rintro v9 w1 ⟨rfl, rfl⟩
  show V g k 1 w 0 0 (kQ g k (fun v w' => v = none ∧ w' t = some (a, ob 9 [.int (nI 0), .null, .int 0]) ∧ Fr w w' t (t + 1)) 0 0) 4 [(0, .ref a)] []
  refine r_aload_n C 0 dJxc12de_init_da8c8_4 rfl rfl ?_
  refine r_iconst C (nI 0) dJxc12de_init_da8c8_5 (by decide) rfl ?_
  refine r_put (t := t) (w' := wd_set w t a (ob 9 [.int (nI 0), .null, .int 0])) C koJx4a65c h0 0 (by decide) q57 rfl rfl rfl rfl (Nat.le_of_ble_eq_true rfl) dJxc12de_init_da8c8_6 rfl rfl ?_
  exact r_vret C rfl (by decide) (by decide) dJxc12de_init_da8c8_9 ⟨rfl, wd_eq, Fr.set (by omega) (by omega)⟩

set_option maxHeartbeats 4000000 in
set_option maxRecDepth 20000 in
theorem c_ALinit {l : Launch} {g : cx_G} {w : wd_T} {a t : Nat} {m9 : Int32} {el tg : Nat → Nat} (h0 : w t = some (a, ob 9 [.int m9, .null, .int 0])) : Mt l g yJx4a65c_init_da8c8 cJx4a65c_init_da8c8 1 none 3 0 0 w [.ref a] (fun v w' => v = none ∧ LsAt g w' t a 0 el tg ∧ Fr w w' t (t + 1)) := by
  refine mt_of RJx4a65c "<init>" rfl rfl (by decide) (Nat.le_of_ble_eq_true rfl) [(0, .ref a)] rfl ?_
  intro k hkl C hin
  subst hkl
  refine r_aload_n C 0 dJx4a65c_init_da8c8_0 rfl rfl ?_
  refine r_callI (As := []) (st := []) C (c_ABinit h0) q48 q46 q47 q4 rfl ⟨by decide, by decide⟩ (show (parseMethodDescriptor yJxc12de_init_da8c8.desc).map (fun d => d.parameters.length) = some 0 by decide +kernel) (by decide) (by decide) (by decide) (by decide) (Nat.le_of_ble_eq_true rfl) rfl dJx4a65c_init_da8c8_1 rfl ?_
  rintro v9 w2 ⟨rfl, e0, ef1⟩
  show V g k 1 w2 0 0 (kQ g k (fun v w' => v = none ∧ LsAt g w' t a 0 el tg ∧ Fr w w' t (t + 1)) 0 0) 4 [(0, .ref a)] []
  refine r_aload_n C 0 dJx4a65c_init_da8c8_4 rfl rfl ?_
  refine r_gets C (ks_E C) q53 rfl dJx4a65c_init_da8c8_5 rfl ?_
  refine r_put (t := t) (w' := wd_set w2 t a (ob 9 [.int (nI 0), .ref (gsE g), .int 0])) C koJx4a65c e0 1 (by decide) q55 rfl rfl rfl rfl (Nat.le_of_ble_eq_true rfl) dJx4a65c_init_da8c8_8 rfl rfl ?_
  exact r_vret C rfl (by decide) (by decide) dJx4a65c_init_da8c8_11 ⟨rfl, ⟨_, _, wd_eq, Or.inl ⟨rfl, rfl⟩, fun j hj => absurd hj (Nat.not_lt_zero j)⟩, ef1.trans (Fr.set (by omega) (by omega))⟩

set_option maxHeartbeats 4000000 in
set_option maxRecDepth 20000 in
theorem c_ALsize0 {l : Launch} {g : cx_G} {w : wd_T} {tl al ae n : Nat} {m9 : Int32} (h0 : w tl = some (al, ob 9 [.int m9, .ref ae, .int (nI n)])) : Mt l g yJx4a65c_size_8abf5 cJx4a65c_size_8abf5 1 (some .int) 0 0 0 w [.ref al] (fun v w' => v = some (.int (nI n)) ∧ w = w') := by
  refine mt_of RJx4a65c "size" rfl rfl (by decide) (Nat.le_of_ble_eq_true rfl) [(0, .ref al)] rfl ?_
  intro k hkl C hin
  subst hkl
  refine r_aload_n C 0 dJx4a65c_size_8abf5_0 rfl rfl ?_
  refine r_get (t := tl) C koJx4a65c h0 2 (by decide) q56 rfl rfl dJx4a65c_size_8abf5_1 rfl ?_
  exact r_iret C rfl (by decide) (by decide) dJx4a65c_size_8abf5_4 ⟨rfl, rfl⟩

theorem c_ALsize {l : Launch} {g : cx_G} {w : wd_T} {tl al n : Nat} {el tg : Nat → Nat} (h : LsAt g w tl al n el tg) : Mt l g yJx4a65c_size_8abf5 cJx4a65c_size_8abf5 1 (some .int) 0 0 0 w [.ref al] (fun v w' => v = some (.int (nI n)) ∧ w = w') := by
  obtain ⟨m9, ae, e0, -⟩ := h
  exact c_ALsize0 e0
set_option maxHeartbeats 4000000 in
set_option maxRecDepth 20000 in
theorem c_ckI {l : Launch} {g : cx_G} {w : wd_T} {i n : Nat} (hi : i < n) (hn : n < 65536) : Mt l g yJ3_checkIndex_8e157 cJ3_checkIndex_8e157 3 (some .int) 0 0 0 w [.int (nI i), .int (nI n), .null] (fun v w' => v = some (.int (nI i)) ∧ w = w') := by
  refine mt_of RJ3 "checkIndex" rfl rfl (by decide) (Nat.le_of_ble_eq_true rfl) [(0, .int (nI i)), (1, .int (nI n)), (2, .null)] rfl ?_
  intro k hkl C hin
  subst hkl
  refine r_iload_n C 0 dJ3_checkIndex_8e157_0 rfl rfl ?_
  refine r_if_lt_f (tgt := 9) C dJ3_checkIndex_8e157_1 (by decide) rfl (nI_pos (by omega)) ?_
  refine r_iload_n C 0 dJ3_checkIndex_8e157_4 rfl rfl ?_
  refine r_iload_n C 1 dJ3_checkIndex_8e157_5 rfl rfl ?_
  refine r_icmp_lt_t (tgt := 16) C dJ3_checkIndex_8e157_6 (by decide) ((nI_ltI (a := i) (b := n) (by omega) (by omega)).mpr (by omega)) ?_
  refine r_iload_n C 0 dJ3_checkIndex_8e157_16 rfl rfl ?_
  exact r_iret C rfl (by decide) (by decide) dJ3_checkIndex_8e157_17 ⟨rfl, rfl⟩

set_option maxHeartbeats 4000000 in
set_option maxRecDepth 20000 in
theorem c_ckO {l : Launch} {g : cx_G} {w : wd_T} {i n : Nat} (hi : i < n) (hn : n < 65536) : Mt l g yJ15_checkIndex_7cf53 cJ15_checkIndex_7cf53 2 (some .int) 1 0 0 w [.int (nI i), .int (nI n)] (fun v w' => v = some (.int (nI i)) ∧ w = w') := by
  refine mt_of RJ15 "checkIndex" rfl rfl (by decide) (Nat.le_of_ble_eq_true rfl) [(0, .int (nI i)), (1, .int (nI n))] rfl ?_
  intro k hkl C hin
  subst hkl
  refine r_iload_n C 0 dJ15_checkIndex_7cf53_0 rfl rfl ?_
  refine r_iload_n C 1 dJ15_checkIndex_7cf53_1 rfl rfl ?_
  refine r_null C dJ15_checkIndex_7cf53_2 rfl ?_
  refine r_callS (As := [.int (nI i), .int (nI n), .null]) (st := []) C (c_ckI hi hn) q185 q183 q184 q11 ⟨by decide, by decide⟩ (show (parseMethodDescriptor yJ3_checkIndex_8e157.desc).map (fun d => d.parameters.length) = some 3 by decide +kernel) (by decide) (by decide) (by decide) (by decide) (Nat.le_of_ble_eq_true rfl) rfl dJ15_checkIndex_7cf53_3 rfl ?_
  rintro v9 w1 ⟨rfl, rfl⟩
  show V g k 2 w 0 0 (kQ g k (fun v w' => v = some (.int (nI i)) ∧ w = w') 0 0) 6 [(0, .int (nI i)), (1, .int (nI n))] [.int (nI i)]
  exact r_iret C rfl (by decide) (by decide) dJ15_checkIndex_7cf53_6 ⟨rfl, rfl⟩

set_option maxHeartbeats 4000000 in
set_option maxRecDepth 20000 in
theorem c_ALed {l : Launch} {g : cx_G} {w : wd_T} {tl al ae n cap i x : Nat} {m9 : Int32} {fq : Nat → Option Nat} (h0 : w tl = some (al, ob 9 [.int m9, .ref ae, .int (nI n)])) (h1 : w (tl + 1) = some (ae, aO g cap fq)) (hi : i < n) (hn : n ≤ cap) (hc : cap < 65536) (hq : fq i = some x) : Mt l g yJx4a65c_elementData_915e3 cJx4a65c_elementData_915e3 2 (some (.object "java/lang/Object")) 0 0 0 w [.ref al, .int (nI i)] (fun v w' => v = some (.ref x) ∧ w = w') := by
  refine mt_of RJx4a65c "elementData" rfl rfl (by decide) (Nat.le_of_ble_eq_true rfl) [(0, .ref al), (1, .int (nI i))] rfl ?_
  intro k hkl C hin
  subst hkl
  refine r_aload_n C 0 dJx4a65c_elementData_915e3_0 rfl rfl ?_
  refine r_get (t := tl) C koJx4a65c h0 1 (by decide) q55 rfl rfl dJx4a65c_elementData_915e3_1 rfl ?_
  refine r_iload_n C 1 dJx4a65c_elementData_915e3_4 rfl rfl ?_
  refine r_aald (t := (tl + 1)) C h1 i rfl (by omega) (by omega) dJx4a65c_elementData_915e3_5 rfl ?_
  refine r_tv (show (va_rf (fq i) : Value) = .ref x from (by rw [hq]; rfl)) ?_
  exact r_aret C rfl (Or.inl ⟨_, rfl⟩) (Or.inr ⟨_, rfl⟩) (by decide) (by decide) dJx4a65c_elementData_915e3_6 ⟨rfl, rfl⟩

set_option maxHeartbeats 4000000 in
set_option maxRecDepth 20000 in
theorem c_ALget0 {l : Launch} {g : cx_G} {w : wd_T} {tl al ae n cap i x : Nat} {m9 : Int32} {fq : Nat → Option Nat} (h0 : w tl = some (al, ob 9 [.int m9, .ref ae, .int (nI n)])) (h1 : w (tl + 1) = some (ae, aO g cap fq)) (hi : i < n) (hn : n ≤ cap) (hc : cap < 65536) (hq : fq i = some x) : Mt l g yJx4a65c_get_915e3 cJx4a65c_get_915e3 2 (some (.object "java/lang/Object")) 2 0 0 w [.ref al, .int (nI i)] (fun v w' => v = some (.ref x) ∧ w = w') := by
  refine mt_of RJx4a65c "get" rfl rfl (by decide) (Nat.le_of_ble_eq_true rfl) [(0, .ref al), (1, .int (nI i))] rfl ?_
  intro k hkl C hin
  subst hkl
  refine r_iload_n C 1 dJx4a65c_get_915e3_0 rfl rfl ?_
  refine r_aload_n C 0 dJx4a65c_get_915e3_1 rfl rfl ?_
  refine r_get (t := tl) C koJx4a65c h0 2 (by decide) q56 rfl rfl dJx4a65c_get_915e3_2 rfl ?_
  refine r_callS (As := [.int (nI i), .int (nI n)]) (st := []) C (c_ckO hi (by omega)) q182 q180 q181 q10 ⟨by decide, by decide⟩ (show (parseMethodDescriptor yJ15_checkIndex_7cf53.desc).map (fun d => d.parameters.length) = some 2 by decide +kernel) (by decide) (by decide) (by decide) (by decide) (Nat.le_of_ble_eq_true rfl) rfl dJx4a65c_get_915e3_5 rfl ?_
  rintro v9 w1 ⟨rfl, rfl⟩
  show V g k 2 w 0 0 (kQ g k (fun v w' => v = some (.ref x) ∧ w = w') 0 0) 8 [(0, .ref al), (1, .int (nI i))] [.int (nI i)]
  refine r_pop C dJx4a65c_get_915e3_8 rfl rfl ?_
  refine r_aload_n C 0 dJx4a65c_get_915e3_9 rfl rfl ?_
  refine r_iload_n C 1 dJx4a65c_get_915e3_10 rfl rfl ?_
  refine r_callV (t := tl) (As := [.int (nI i)]) (st := []) C koJx4a65c h0 (c_ALed h0 h1 hi hn hc hq) q189 q186 q187 q188 q5 rfl ⟨by decide, by decide⟩ (show (parseMethodDescriptor yJx4a65c_elementData_915e3.desc).map (fun d => d.parameters.length) = some 1 by decide +kernel) (by decide) (by decide) (by decide) (by decide) (Nat.le_of_ble_eq_true rfl) rfl dJx4a65c_get_915e3_11 rfl ?_
  rintro v9 w2 ⟨rfl, rfl⟩
  show V g k 2 w 0 0 (kQ g k (fun v w' => v = some (.ref x) ∧ w = w') 0 0) 14 [(0, .ref al), (1, .int (nI i))] [.ref x]
  exact r_aret C rfl (Or.inl ⟨_, rfl⟩) (Or.inr ⟨_, rfl⟩) (by decide) (by decide) dJx4a65c_get_915e3_14 ⟨rfl, rfl⟩

theorem c_ALget {l : Launch} {g : cx_G} {w : wd_T} {tl al n i : Nat} {el tg : Nat → Nat} (h : LsAt g w tl al n el tg) (hi : i < n) (hn : n ≤ 1000) : Mt l g yJx4a65c_get_915e3 cJx4a65c_get_915e3 2 (some (.object "java/lang/Object")) 2 0 0 w [.ref al, .int (nI i)] (fun v w' => v = some (.ref (el i)) ∧ w = w') := by
  obtain ⟨m9, ae, e0, e1, e2⟩ := h
  rcases e1 with ⟨e1, -⟩ | ⟨cap, fq, e1, e3, e4, e5, e6⟩
  · exact absurd hi (by omega)
  · exact c_ALget0 e0 e1 hi e3 (by omega) (e6 i hi)
set_option maxHeartbeats 4000000 in
set_option maxRecDepth 20000 in
theorem c_newLen {l : Launch} {g : cx_G} {w : wd_T} {a b : Nat} (hb : 2 ≤ b) (hab : a + b ≤ 60000) : Mt l g yJ8_newLength_cabcc cJ8_newLength_cabcc 4 (some .int) 1 0 0 w [.int (nI a), .int (nI 1), .int (nI b)] (fun v w' => v = some (.int (nI (a + b))) ∧ w = w') := by
  refine mt_of RJ8 "newLength" rfl rfl (by decide) (Nat.le_of_ble_eq_true rfl) [(0, .int (nI a)), (1, .int (nI 1)), (2, .int (nI b))] rfl ?_
  intro k hkl C hin
  subst hkl
  refine r_iload_n C 0 dJ8_newLength_cabcc_0 rfl rfl ?_
  refine r_iload_n C 1 dJ8_newLength_cabcc_1 rfl rfl ?_
  refine r_iload_n C 2 dJ8_newLength_cabcc_2 rfl rfl ?_
  refine r_mmax C q228 q229 q14 q230 (by decide) (Nat.le_of_ble_eq_true rfl) (by decide) (by decide) dJ8_newLength_cabcc_3 rfl ?_
  refine r_ti (show (if (nI 1) < (nI b) then nI b else nI 1 : Int32) = nI b from if_pos (nI_lt (by omega) (by omega))) ?_
  refine r_iadd C dJ8_newLength_cabcc_6 rfl ?_
  refine r_ti (show ((nI a) + (nI b) : Int32) = nI (a + b) from nI_add a b) ?_
  refine r_istore_n (lv' := [(3, .int (nI (a + b))), (0, .int (nI a)), (1, .int (nI 1)), (2, .int (nI b))]) C dJ8_newLength_cabcc_7 (by decide) rfl rfl ?_
  refine r_iconst C (nI 0) dJ8_newLength_cabcc_8 (by decide) rfl ?_
  refine r_iload_n C 0 dJ8_newLength_cabcc_9 rfl rfl ?_
  refine r_icmp_ge_f (tgt := 21) C dJ8_newLength_cabcc_10 (by decide) rfl (fun z => absurd ((nI_leI (a := (a + b)) (b := 0) (by omega) (by omega)).mp z) (by omega)) ?_
  refine r_iload_n C 0 dJ8_newLength_cabcc_13 rfl rfl ?_
  refine r_ldc (v := nI 2147483639) C dJ8_newLength_cabcc_14 q231 rfl ?_
  refine r_icmp_gt_f (tgt := 21) C dJ8_newLength_cabcc_16 (by decide) rfl (fun z => absurd ((nI_ltI (a := 2147483639) (b := (a + b)) (by omega) (by omega)).mp z) (by omega)) ?_
  refine r_iload_n C 0 dJ8_newLength_cabcc_19 rfl rfl ?_
  exact r_iret C rfl (by decide) (by decide) dJ8_newLength_cabcc_20 ⟨rfl, rfl⟩

set_option maxHeartbeats 4000000 in
set_option maxRecDepth 20000 in
theorem c_copyOf3 {l : Launch} {g : cx_G} {w : wd_T} {te tx ae cap m : Nat} {fq : Nat → Option Nat} (h1 : w te = some (ae, aO g cap fq)) (hne : te ≠ tx) (hm : cap ≤ m) (hm2 : m ≤ 460) (hel : ∀ i, i < cap → ∀ y, fq i = some y → ∃ t, t ≠ tx ∧ el_at w t y) : Mt l g yJ7_copyOf_6403c cJ7_copyOf_6403c 4 (some (.array (.object "java/lang/Object"))) 1 1 460 w [.ref ae, .int (nI m), .ref (gsM g)] (fun v w' => ∃ a2, v = some (.ref a2) ∧ w' tx = some (a2, aO g m (va_cpy fq (fun _ => none) 0 0 cap)) ∧ Fr w w' tx (tx + 1)) := by
  refine mt_of RJ7 "copyOf" rfl rfl (by decide) (Nat.le_of_ble_eq_true rfl) [(0, .ref ae), (1, .int (nI m)), (2, .ref (gsM g))] rfl ?_
  intro k hkl C hin
  subst hkl
  refine r_aload_n C 2 dJ7_copyOf_6403c_0 rfl rfl ?_
  refine r_ldcM C q256 dJ7_copyOf_6403c_1 rfl ?_
  refine r_acmp_ne_f (tgt := 13) (x := some (gsM g)) (y := some (gsM g)) C dJ7_copyOf_6403c_3 (by decide) rfl (rfl) ?_
  refine r_iload_n C 1 dJ7_copyOf_6403c_6 rfl rfl ?_
  refine r_newa C m rfl (by omega) q258 tx (by decide) (by omega) dJ7_copyOf_6403c_7 rfl (fun a2 => ?_)
  refine r_goto (tgt := 24) C dJ7_copyOf_6403c_10 (by decide) ?_
  refine r_astore_n (lv' := [(3, .ref a2), (0, .ref ae), (1, .int (nI m)), (2, .ref (gsM g))]) C dJ7_copyOf_6403c_24 (by decide) rfl rfl ?_
  refine r_aload_n C 1 dJ7_copyOf_6403c_25 rfl rfl ?_
  refine r_iconst C (nI 0) dJ7_copyOf_6403c_26 (by decide) rfl ?_
  refine r_aload_n C 0 dJ7_copyOf_6403c_27 rfl rfl ?_
  refine r_iconst C (nI 0) dJ7_copyOf_6403c_28 (by decide) rfl ?_
  refine r_aload_n C 1 dJ7_copyOf_6403c_29 rfl rfl ?_
  refine r_alen (t := te) C ((wd_ne (by omega)).trans h1) dJ7_copyOf_6403c_30 rfl ?_
  refine r_iload_n C 2 dJ7_copyOf_6403c_31 rfl rfl ?_
  refine r_mmin C q259 q260 q14 q261 (by decide) (Nat.le_of_ble_eq_true rfl) (by decide) (by omega) dJ7_copyOf_6403c_32 rfl ?_
  refine r_ti (show (if (nI m) < (nI cap) then nI m else nI cap : Int32) = nI cap from if_neg (nI_nlt (by omega) (by omega))) ?_
  refine r_copyq (t0 := te) (t1 := tx) (w' := wd_set w tx a2 (aO g m (va_cpy fq (fun _ => none) 0 0 cap))) C ((wd_ne (by omega)).trans h1) wd_eq q262 q264 q263 q16 0 0 cap rfl rfl rfl (by omega) (by omega) (by omega) (by omega) (fun i hi y hy => by rw [Nat.zero_add] at hy; obtain ⟨t, ht, h9⟩ := hel i hi y hy; exact (h9.kept (wd_ne ht)).ok) (by decide) (Nat.le_of_ble_eq_true rfl) dJ7_copyOf_6403c_35 rfl wd_ss ?_
  refine r_aload_n C 0 dJ7_copyOf_6403c_38 rfl rfl ?_
  exact r_aret C rfl (Or.inr ⟨_, rfl⟩) (Or.inr ⟨_, rfl⟩) (by decide) (by omega) dJ7_copyOf_6403c_39 ⟨a2, rfl, wd_eq, Fr.set (by omega) (by omega)⟩

set_option maxHeartbeats 4000000 in
set_option maxRecDepth 20000 in
theorem c_copyOf2 {l : Launch} {g : cx_G} {w : wd_T} {te tx ae cap m : Nat} {fq : Nat → Option Nat} (h1 : w te = some (ae, aO g cap fq)) (hne : te ≠ tx) (hm : cap ≤ m) (hm2 : m ≤ 460) (hel : ∀ i, i < cap → ∀ y, fq i = some y → ∃ t, t ≠ tx ∧ el_at w t y) : Mt l g yJ7_copyOf_1904c cJ7_copyOf_1904c 2 (some (.array (.object "java/lang/Object"))) 2 1 460 w [.ref ae, .int (nI m)] (fun v w' => ∃ a2, v = some (.ref a2) ∧ w' tx = some (a2, aO g m (va_cpy fq (fun _ => none) 0 0 cap)) ∧ Fr w w' tx (tx + 1)) := by
  refine mt_of RJ7 "copyOf" rfl rfl (by decide) (Nat.le_of_ble_eq_true rfl) [(0, .ref ae), (1, .int (nI m))] rfl ?_
  intro k hkl C hin
  subst hkl
  refine r_aload_n C 0 dJ7_copyOf_1904c_0 rfl rfl ?_
  refine r_iload_n C 1 dJ7_copyOf_1904c_1 rfl rfl ?_
  refine r_aload_n C 0 dJ7_copyOf_1904c_2 rfl rfl ?_
  refine r_getC (t := te) C h1 q238 q948 q947 q239 q252 (by decide) (Nat.le_of_ble_eq_true rfl) dJ7_copyOf_1904c_3 rfl ?_
  refine r_callS (As := [.ref ae, .int (nI m), .ref (gsM g)]) (st := []) C (c_copyOf3 h1 hne hm hm2 hel) q255 q253 q254 q15 ⟨by decide, by decide⟩ (show (parseMethodDescriptor yJ7_copyOf_6403c.desc).map (fun d => d.parameters.length) = some 3 by decide +kernel) (by decide) (by decide) (by decide) (by decide) (Nat.le_of_ble_eq_true rfl) rfl dJ7_copyOf_1904c_6 rfl ?_
  rintro v9 w1 ⟨a2, rfl, e1, ef⟩
  show V g k 2 w1 1 460 (kQ g k (fun v w' => ∃ a2, v = some (.ref a2) ∧ w' tx = some (a2, aO g m (va_cpy fq (fun _ => none) 0 0 cap)) ∧ Fr w w' tx (tx + 1)) 1 460) 9 [(0, .ref ae), (1, .int (nI m))] [.ref a2]
  exact r_aret C rfl (Or.inr ⟨_, rfl⟩) (Or.inr ⟨_, rfl⟩) (by decide) (by decide) dJ7_copyOf_1904c_9 ⟨a2, rfl, e1, ef⟩
