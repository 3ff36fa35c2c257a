/-! WORLDS BY TAGS: a world gives a tag its address and what the cell holds; the judgement V of a frame over a world; one word list GW for all methods -/
abbrev wd_T : Type := Nat → Option (Nat × va_E)
def wd_set (w : wd_T) (t a : Nat) (e : va_E) : wd_T := fun j => if j = t then some (a, e) else w j
theorem wd_eq {w : wd_T} {t a : Nat} {e : va_E} : wd_set w t a e t = some (a, e) := if_pos rfl
theorem wd_ne {w : wd_T} {t a j : Nat} {e : va_E} (h : j ≠ t) : wd_set w t a e j = w j := if_neg h
theorem wd_ss {w : wd_T} {t a b : Nat} {e f : va_E} : wd_set (wd_set w t a e) t b f = wd_set w t b f := by
  funext j
  by_cases h : j = t
  · subst h; rw [wd_eq, wd_eq]
  · rw [wd_ne h, wd_ne h, wd_ne h]
theorem wd_sw {w : wd_T} {t u a b : Nat} {e f : va_E} (h : t ≠ u) : wd_set (wd_set w t a e) u b f = wd_set (wd_set w u b f) t a e := by
  funext j
  by_cases h1 : j = t
  · subst h1; rw [wd_eq, wd_ne h, wd_eq]
  · rw [wd_ne h1]
    by_cases h2 : j = u
    · subst h2; rw [wd_eq, wd_eq]
    · rw [wd_ne h2, wd_ne h2, wd_ne h1]
/-- a cell that is written anew with what it holds -/
theorem wd_id {w : wd_T} {t a : Nat} {e : va_E} (h : w t = some (a, e)) : wd_set w t a e = w := by
  funext j
  by_cases h1 : j = t
  · subst h1; rw [wd_eq, h]
  · rw [wd_ne h1]
/-- what the whole run knows: the classes' numbers, the array classes (byte, int, long, Object), the statics' cells, the heap at the law's start -/
abbrev cx_G : Type := va_G × (ClassId × ClassId × ClassId × ClassId) × (Nat × Nat × Nat × Nat × Nat × Nat × Nat) × Heap
abbrev gB (g : cx_G) : ClassId := g.2.1.1
abbrev gI (g : cx_G) : ClassId := g.2.1.2.1
abbrev gL (g : cx_G) : ClassId := g.2.1.2.2.1
abbrev gO (g : cx_G) : ClassId := g.2.1.2.2.2
abbrev gsS (g : cx_G) : Nat := g.2.2.1.1
abbrev gsC (g : cx_G) : Nat := g.2.2.1.2.1
abbrev gsE (g : cx_G) : Nat := g.2.2.1.2.2.1
abbrev gsV (g : cx_G) : Nat := g.2.2.1.2.2.2.1
abbrev gsW (g : cx_G) : Nat := g.2.2.1.2.2.2.2.1
abbrev gsX (g : cx_G) : Nat := g.2.2.1.2.2.2.2.2.1
abbrev gsM (g : cx_G) : Nat := g.2.2.1.2.2.2.2.2.2
abbrev gH (g : cx_G) : Heap := g.2.2.2
def cx_A (g : cx_G) : Nat → Prop := fun q => (gH g).size ≤ q
abbrev cx_tys (g : cx_G) : List (ClassId × FieldType) := [(gB g, .byte), (gI g, .int), (gL g, .long), (gO g, .object "java/lang/Object")]
abbrev aB (g : cx_G) (n : Nat) (f : Nat → Int32) : va_E := .inl (gB g, n, .inl f)
abbrev aI (g : cx_G) (n : Nat) (f : Nat → Int32) : va_E := .inl (gI g, n, .inl f)
abbrev aL (g : cx_G) (n : Nat) (f : Nat → Int64) : va_E := .inl (gL g, n, .inr (.inl f))
abbrev aO (g : cx_G) (n : Nat) (f : Nat → Option Nat) : va_E := .inl (gO g, n, .inr (.inr (.inr (.inr f))))
abbrev ob (ci : Nat) (fs : List Value) : va_E := .inr (ci, fs)
def wl_ok (w : wd_T) (ws : va_W) : Prop := (∀ t a e, w t = some (a, e) → ∃ k : Nat, ws[k]? = some (a, e)) ∧ ∀ t1 t2 a e1 e2, w t1 = some (a, e1) → w t2 = some (a, e2) → t1 = t2
def hp_ok (g : cx_G) (w : wd_T) (H : Heap) : Prop := ∃ ws : va_W, va_P g.1 classes ws H ∧ va_D (cx_A g) ws ∧ wl_ok w ws ∧ va_S (cx_A g) (gH g) H []
theorem wl_set {w : wd_T} {ws : va_W} {A : Nat → Prop} {t a k : Nat} {e0 e : va_E} (h : wl_ok w ws) (hD : va_D A ws) (ht : w t = some (a, e0)) (hk : ws[k]? = some (a, e0)) : wl_ok (wd_set w t a e) (ws.set k (a, e)) := by
  have hl := (List.getElem?_eq_some_iff.mp hk).1
  refine ⟨fun j b f hj => ?_, fun t1 t2 b e1 e2 h1 h2 => ?_⟩
  · by_cases hjt : j = t
    · subst hjt
      rw [wd_eq] at hj
      cases hj
      exact ⟨k, List.getElem?_set_self hl⟩
    · rw [wd_ne hjt] at hj
      obtain ⟨i, hi⟩ := h.1 j b f hj
      refine ⟨i, ?_⟩
      have hne : k ≠ i := fun z => by
        subst z
        rw [hk] at hi
        cases hi
        exact hjt (h.2 j t a _ _ hj ht)
      rw [List.getElem?_set_ne hne]
      exact hi
  · by_cases q1 : t1 = t
    · by_cases q2 : t2 = t
      · rw [q1, q2]
      · subst q1
        rw [wd_eq] at h1
        rw [wd_ne q2] at h2
        cases h1
        exact h.2 _ _ _ _ _ ht h2
    · rw [wd_ne q1] at h1
      by_cases q2 : t2 = t
      · subst q2
        rw [wd_eq] at h2
        cases h2
        exact h.2 _ _ _ _ _ h1 ht
      · rw [wd_ne q2] at h2
        exact h.2 _ _ _ _ _ h1 h2
/-- a new cell; the tag may have named another one, which is let go -/
theorem wl_new {w : wd_T} {ws : va_W} {A : Nat → Prop} {t q : Nat} {e : va_E} (h : wl_ok w ws) (hD : va_D A (ws ++ [(q, e)])) : wl_ok (wd_set w t q e) (ws ++ [(q, e)]) := by
  have hlast : (ws ++ [(q, e)])[ws.length]? = some (q, e) := by rw [List.getElem?_append_right (Nat.le_refl _), Nat.sub_self]; rfl
  have old : ∀ (j b : Nat) (f : va_E), w j = some (b, f) → ∃ i, i < ws.length ∧ (ws ++ [(q, e)])[i]? = some (b, f) := by
    intro j b f hj
    obtain ⟨i, hi⟩ := h.1 j b f hj
    have hl := (List.getElem?_eq_some_iff.mp hi).1
    exact ⟨i, hl, by rw [List.getElem?_append_left hl]; exact hi⟩
  have fresh : ∀ (j b : Nat) (f : va_E), w j = some (b, f) → b ≠ q := by
    intro j b f hj z
    obtain ⟨i, hl, hi⟩ := old j b f hj
    have := hD.1 i ws.length _ _ hi hlast z
    omega
  refine ⟨fun j b f hj => ?_, fun t1 t2 b e1 e2 h1 h2 => ?_⟩
  · by_cases hjt : j = t
    · subst hjt
      rw [wd_eq] at hj
      cases hj
      exact ⟨_, hlast⟩
    · rw [wd_ne hjt] at hj
      obtain ⟨i, -, hi⟩ := old j b f hj
      exact ⟨i, hi⟩
  · by_cases q1 : t1 = t
    · by_cases q2 : t2 = t
      · rw [q1, q2]
      · subst q1
        rw [wd_eq] at h1
        rw [wd_ne q2] at h2
        cases h1
        exact absurd rfl (fresh _ _ _ h2)
    · rw [wd_ne q1] at h1
      by_cases q2 : t2 = t
      · subst q2
        rw [wd_eq] at h2
        cases h2
        exact absurd rfl (fresh _ _ _ h1)
      · rw [wd_ne q2] at h2
        exact h.2 _ _ _ _ _ h1 h2
theorem S_locs {A : Nat → Prop} {H0 H : Heap} {locs : List Loc} (h : va_S A H0 H []) (hL : ∀ z ∈ locs, A z.base) : va_S A H0 H locs := ⟨h.1, h.2.1, hL⟩
theorem S_nil {A : Nat → Prop} {H0 H : Heap} {locs : List Loc} (h : va_S A H0 H locs) : va_S A H0 H [] := ⟨h.1, h.2.1, fun _ q => nomatch q⟩
/-- statics: what they hold at the law's start, and for good (nobody writes them) -/
def ks_ok (g : cx_G) (s : State) : Prop :=
  va_Z "TicketChain" "SQUARE_ROOTS" "[I" (.ref (gsS g)) (cx_A g) s (gH g) ∧ va_T .int (gsS g) 8 (fun j => .int (kSq j)) (cx_A g) s (gH g) ∧
  va_Z "TicketChain" "CUBE_ROOTS" "[I" (.ref (gsC g)) (cx_A g) s (gH g) ∧ va_T .int (gsC g) 64 (fun j => .int (kCu j)) (cx_A g) s (gH g) ∧
  va_Z "java/util/ArrayList" "DEFAULTCAPACITY_EMPTY_ELEMENTDATA" "[Ljava/lang/Object;" (.ref (gsE g)) (cx_A g) s (gH g) ∧ va_T (.object "java/lang/Object") (gsE g) 0 (fun _ => .null) (cx_A g) s (gH g) ∧
  vk_R "TicketChain$Form" 37 " VOID " (gsV g) s ∧ va_O "java/lang/String" (gsV g) (cx_A g) s (gH g) ∧ va_OF "java/lang/String" "coder" "B" (.int 0) (gsV g) (cx_A g) s (gH g) ∧ va_OF "java/lang/String" "value" "[B" (.ref (gsW g)) (gsV g) (cx_A g) s (gH g) ∧ va_T .byte (gsW g) 6 (fun j => .int (kVo j)) (cx_A g) s (gH g) ∧
  va_Z "java/lang/String" "COMPACT_STRINGS" "Z" (.int 1) (cx_A g) s (gH g) ∧
  vk_R "TicketChain" 155 "no such byte of a row" (gsX g) s ∧
  va_Zq "java/lang/Throwable" "UNASSIGNED_STACK" "[Ljava/lang/StackTraceElement;" (cx_A g) s (gH g) ∧ va_Zq "java/lang/Throwable" "SUPPRESSED_SENTINEL" "Ljava/util/List;" (cx_A g) s (gH g) ∧
  va_Mi "[Ljava/lang/Object;" (gsM g) s ∧ va_AO "java/lang/Object" s ∧ va_Zq "jdk/internal/util/Preconditions" "SIOOBE_FORMATTER" "Ljava/util/function/BiFunction;" (cx_A g) s (gH g)
theorem va_Mi.moved9 {C : String} {mi : Nat} {u U : State} (hvm : u.vm.Alike U.vm) (h : va_Mi C mi u) : va_Mi C mi U := by
  obtain ⟨c, k, h1, h2, h3⟩ := h
  obtain ⟨k', hk', he⟩ := hvm.2.2 _ _ h2
  exact ⟨c, k', by rw [hvm.findClass]; exact h1, hk', by rw [he]; exact h3⟩
theorem ks_ok.warm {g : cx_G} {s U : State} (hW : s.WarmedH U.vm) (h : ks_ok g s) : ks_ok g U := by
  have a := hW.alike
  obtain ⟨h1, h2, h3, h4, h5, h6, h7, h8, h9, h10, h11, h12, h13, h14, h15, h16, h17, h18⟩ := h
  exact ⟨h1.moved a, h2.moved a, h3.moved a, h4.moved a, h5.moved a, h6.moved a, h7.warm hW, va_O.moved a h8, va_OF.moved a h9, va_OF.moved a h10, h11.moved a, h12.moved a, h13.warm hW, va_Zq.moved a h14, va_Zq.moved a h15, h16.moved9 a, h17.moved a, va_Zq.moved a h18⟩
theorem ks_ok.same {g : cx_G} {u U : State} (hv : U.vm = u.vm) (h : ks_ok g u) : ks_ok g U := by
  have a : u.vm.Alike U.vm := by rw [hv]; exact Vm.Alike.refl u.vm
  obtain ⟨h1, h2, h3, h4, h5, h6, h7, h8, h9, h10, h11, h12, h13, h14, h15, h16, h17, h18⟩ := h
  exact ⟨h1.moved a, h2.moved a, h3.moved a, h4.moved a, h5.moved a, h6.moved a, h7.same hv, va_O.moved a h8, va_OF.moved a h9, va_OF.moved a h10, h11.moved a, h12.moved a, h13.same hv, va_Zq.moved a h14, va_Zq.moved a h15, h16.moved9 a, h17.moved a, va_Zq.moved a h18⟩
/-- words that keep by laws of their own -/
def nw_ok : Cond → Bool
  | .fieldLinkNest .. => true
  | .methodLinkNest .. => true
  | .castable .. => true
  | .declares .. => true
  | _ => false
theorem nw_warm {w : Cond} {s U : State} (h : nw_ok w = true) (hW : s.WarmedH U.vm) (hZ : va_Nw w s) : va_Nw w U := by
  cases w <;> first
    | exact va_Nw.warmF hW hZ
    | exact va_Nw.warmM hW hZ
    | exact va_Nw.warmC hW hZ
    | exact va_Nw.warmD hW hZ
    | (exfalso; revert h; simp [nw_ok]; done)
theorem nw_onT {w : Cond} (h : nw_ok w = true) : w.onTables = true := by
  cases w <;> first
    | rfl
    | (exfalso; revert h; simp [nw_ok]; done)
def NW : List Cond := tables_1.filter nw_ok
theorem nw_t {w : Cond} (i : Nat) (h : tables_1[i]? = some w) (hg : nw_ok w = true) : w ∈ NW := List.mem_filter.mpr ⟨List.mem_of_getElem? h, hg⟩
theorem nw_in {w : Cond} (h : w ∈ NW) : nw_ok w = true := (List.mem_filter.mp h).2
def kn_ok (g : cx_G) (s : State) : Prop := va_K g.1 classes (cx_tys g) s ∧ ks_ok g s ∧ ∀ w ∈ NW, va_Nw w s
theorem kn_ok.warm {g : cx_G} {s U : State} (hW : s.WarmedH U.vm) (h : kn_ok g s) : kn_ok g U := ⟨h.1.moved hW.alike, h.2.1.warm hW, fun w hw => nw_warm (nw_in hw) hW (h.2.2 w hw)⟩
theorem kn_ok.same {g : cx_G} {u U : State} (hv : U.vm = u.vm) (h : kn_ok g u) : kn_ok g U := ⟨h.1.moved (by rw [hv]; exact Vm.Alike.refl u.vm), h.2.1.same hv, fun w hw => va_Nw.same (nw_onT (nw_in hw)) hv.symm (h.2.2 w hw)⟩
/-- what the tables say of a class of a world -/
def KO (ci : Nat) (CN : String) (T : u_T) (N : Nat) (ty : Nat → FieldType) : Prop := classes[ci]? = some (CN, T, N) ∧ (∀ w ∈ u_ws CN T N, w ∈ GW) ∧ (∀ k, k < N → parseFieldDescriptor (T k).2.2.1 = some (ty k)) ∧ ∀ a, a < N → ∀ b, b < N → a ≠ b → (T a).2.1 ≠ (T b).2.1
/-- a frame's surroundings -/
abbrev kx_T : Type := Program × Launch × Env × Room × State × MethodId × Array Value × List Frame × Method × Code
abbrev kxp (k : kx_T) := k.1
abbrev kxl (k : kx_T) := k.2.1
abbrev kxe (k : kx_T) := k.2.2.1
abbrev kxR (k : kx_T) := k.2.2.2.1
abbrev kxs (k : kx_T) := k.2.2.2.2.1
abbrev kxm (k : kx_T) := k.2.2.2.2.2.1
abbrev kxa (k : kx_T) := k.2.2.2.2.2.2.1
abbrev kxb (k : kx_T) := k.2.2.2.2.2.2.2.1
abbrev kxM (k : kx_T) := k.2.2.2.2.2.2.2.2.1
abbrev kxc (k : kx_T) := k.2.2.2.2.2.2.2.2.2
def Cx (g : cx_G) (k : kx_T) (own : String) (cc : ByteArray) (nL : Nat) (rt : Option FieldType) (d mc ms : Nat) : Prop :=
  (kxp k).tables.exec = Jvm.exec ∧ (kxc k).code = cc ∧ (kxc k).maxLocals = nL ∧ (kxs k).vm.findClass own = some (kxm k).cls ∧ (∀ w ∈ GW, w.before (kxa k) (kxs k) = true) ∧
  (kxM k).locks = false ∧ kn_ok g (kxs k) ∧ (kxM k).sig.returnType = rt ∧ d ≤ (kxR k).frames ∧ 40 * d ≤ (kxR k).locals ∧ mc ≤ (kxR k).cells ∧ ms ≤ (kxR k).slots
def V (g : cx_G) (k : kx_T) (nL : Nat) (w : wd_T) (cells slots : Nat) (Q : State → Prop) (pc : Nat) (lv : List (Nat × Value)) (st : List Value) : Prop :=
  ∀ (H : Heap) (locs : List Loc) (ls : Array Slot), hp_ok g w H → (∀ z ∈ locs, cx_A g z.base) → lv_has ls nL lv → W (kxp k) (kxl k) (kxe k) (kxR k) (kxs k) (kxm k) (kxa k) (kxb k) (kxM k) (kxc k) H locs cells slots Q (F0 (kxm k) pc ls st)
section RW
variable {g : cx_G} {k : kx_T} {own : String} {cc : ByteArray} {nL : Nat} {rt : Option FieldType} {d mc ms : Nat} {w w' : wd_T} {cells slots : Nat} {Q : State → Prop} {pc q : Nat} {lv lv' : List (Nat × Value)} {st : List Value}

theorem r_iadd (C : Cx g k own cc nL rt d mc ms) {x y : Int32} (dg : decode cc pc = .ok (.iadd, 1))  (e : pc + 1 = q) (kk : V g k nL w cells slots Q q lv (.int (y + x) :: st)) : V g k nL w cells slots Q pc lv (.int x :: .int y :: st) := by
  subst e
  exact fun H locs ls h1 h2 h3 => lv_iadd C.1 C.2.1 dg (kk H locs ls h1 h2 h3)
theorem r_isub (C : Cx g k own cc nL rt d mc ms) {x y : Int32} (dg : decode cc pc = .ok (.isub, 1))  (e : pc + 1 = q) (kk : V g k nL w cells slots Q q lv (.int (y - x) :: st)) : V g k nL w cells slots Q pc lv (.int x :: .int y :: st) := by
  subst e
  exact fun H locs ls h1 h2 h3 => lv_isub C.1 C.2.1 dg (kk H locs ls h1 h2 h3)
theorem r_imul (C : Cx g k own cc nL rt d mc ms) {x y : Int32} (dg : decode cc pc = .ok (.imul, 1))  (e : pc + 1 = q) (kk : V g k nL w cells slots Q q lv (.int (y * x) :: st)) : V g k nL w cells slots Q pc lv (.int x :: .int y :: st) := by
  subst e
  exact fun H locs ls h1 h2 h3 => lv_imul C.1 C.2.1 dg (kk H locs ls h1 h2 h3)
theorem r_iand (C : Cx g k own cc nL rt d mc ms) {x y : Int32} (dg : decode cc pc = .ok (.iand, 1))  (e : pc + 1 = q) (kk : V g k nL w cells slots Q q lv (.int (y &&& x) :: st)) : V g k nL w cells slots Q pc lv (.int x :: .int y :: st) := by
  subst e
  exact fun H locs ls h1 h2 h3 => lv_iand C.1 C.2.1 dg (kk H locs ls h1 h2 h3)
theorem r_ior (C : Cx g k own cc nL rt d mc ms) {x y : Int32} (dg : decode cc pc = .ok (.ior, 1))  (e : pc + 1 = q) (kk : V g k nL w cells slots Q q lv (.int (y ||| x) :: st)) : V g k nL w cells slots Q pc lv (.int x :: .int y :: st) := by
  subst e
  exact fun H locs ls h1 h2 h3 => lv_ior C.1 C.2.1 dg (kk H locs ls h1 h2 h3)
theorem r_ixor (C : Cx g k own cc nL rt d mc ms) {x y : Int32} (dg : decode cc pc = .ok (.ixor, 1))  (e : pc + 1 = q) (kk : V g k nL w cells slots Q q lv (.int (y ^^^ x) :: st)) : V g k nL w cells slots Q pc lv (.int x :: .int y :: st) := by
  subst e
  exact fun H locs ls h1 h2 h3 => lv_ixor C.1 C.2.1 dg (kk H locs ls h1 h2 h3)
theorem r_ishl (C : Cx g k own cc nL rt d mc ms) {x y : Int32} (dg : decode cc pc = .ok (.ishl, 1))  (e : pc + 1 = q) (kk : V g k nL w cells slots Q q lv (.int (y <<< (x &&& 31)) :: st)) : V g k nL w cells slots Q pc lv (.int x :: .int y :: st) := by
  subst e
  exact fun H locs ls h1 h2 h3 => lv_ishl C.1 C.2.1 dg (kk H locs ls h1 h2 h3)
theorem r_ishr (C : Cx g k own cc nL rt d mc ms) {x y : Int32} (dg : decode cc pc = .ok (.ishr, 1))  (e : pc + 1 = q) (kk : V g k nL w cells slots Q q lv (.int (y >>> (x &&& 31)) :: st)) : V g k nL w cells slots Q pc lv (.int x :: .int y :: st) := by
  subst e
  exact fun H locs ls h1 h2 h3 => lv_ishr C.1 C.2.1 dg (kk H locs ls h1 h2 h3)
theorem r_ladd (C : Cx g k own cc nL rt d mc ms) {x y : Int64} (dg : decode cc pc = .ok (.ladd, 1))  (e : pc + 1 = q) (kk : V g k nL w cells slots Q q lv (.long (y + x) :: st)) : V g k nL w cells slots Q pc lv (.long x :: .long y :: st) := by
  subst e
  exact fun H locs ls h1 h2 h3 => lv_ladd C.1 C.2.1 dg (kk H locs ls h1 h2 h3)
theorem r_lsub (C : Cx g k own cc nL rt d mc ms) {x y : Int64} (dg : decode cc pc = .ok (.lsub, 1))  (e : pc + 1 = q) (kk : V g k nL w cells slots Q q lv (.long (y - x) :: st)) : V g k nL w cells slots Q pc lv (.long x :: .long y :: st) := by
  subst e
  exact fun H locs ls h1 h2 h3 => lv_lsub C.1 C.2.1 dg (kk H locs ls h1 h2 h3)
theorem r_lmul (C : Cx g k own cc nL rt d mc ms) {x y : Int64} (dg : decode cc pc = .ok (.lmul, 1))  (e : pc + 1 = q) (kk : V g k nL w cells slots Q q lv (.long (y * x) :: st)) : V g k nL w cells slots Q pc lv (.long x :: .long y :: st) := by
  subst e
  exact fun H locs ls h1 h2 h3 => lv_lmul C.1 C.2.1 dg (kk H locs ls h1 h2 h3)
theorem r_land (C : Cx g k own cc nL rt d mc ms) {x y : Int64} (dg : decode cc pc = .ok (.land, 1))  (e : pc + 1 = q) (kk : V g k nL w cells slots Q q lv (.long (y &&& x) :: st)) : V g k nL w cells slots Q pc lv (.long x :: .long y :: st) := by
  subst e
  exact fun H locs ls h1 h2 h3 => lv_land C.1 C.2.1 dg (kk H locs ls h1 h2 h3)
theorem r_lor (C : Cx g k own cc nL rt d mc ms) {x y : Int64} (dg : decode cc pc = .ok (.lor, 1))  (e : pc + 1 = q) (kk : V g k nL w cells slots Q q lv (.long (y ||| x) :: st)) : V g k nL w cells slots Q pc lv (.long x :: .long y :: st) := by
  subst e
  exact fun H locs ls h1 h2 h3 => lv_lor C.1 C.2.1 dg (kk H locs ls h1 h2 h3)
theorem r_idiv (C : Cx g k own cc nL rt d mc ms) {x y : Int32} (dg : decode cc pc = .ok (.idiv, 1)) (hne : ¬ x = 0) (e : pc + 1 = q) (kk : V g k nL w cells slots Q q lv (.int (y / x) :: st)) : V g k nL w cells slots Q pc lv (.int x :: .int y :: st) := by
  subst e
  exact fun H locs ls h1 h2 h3 => lv_idiv C.1 C.2.1 dg hne (kk H locs ls h1 h2 h3)
theorem r_irem (C : Cx g k own cc nL rt d mc ms) {x y : Int32} (dg : decode cc pc = .ok (.irem, 1)) (hne : ¬ x = 0) (e : pc + 1 = q) (kk : V g k nL w cells slots Q q lv (.int (y - y / x * x) :: st)) : V g k nL w cells slots Q pc lv (.int x :: .int y :: st) := by
  subst e
  exact fun H locs ls h1 h2 h3 => lv_irem C.1 C.2.1 dg hne (kk H locs ls h1 h2 h3)
theorem r_ldiv (C : Cx g k own cc nL rt d mc ms) {x y : Int64} (dg : decode cc pc = .ok (.ldiv, 1)) (hne : ¬ x = 0) (e : pc + 1 = q) (kk : V g k nL w cells slots Q q lv (.long (y / x) :: st)) : V g k nL w cells slots Q pc lv (.long x :: .long y :: st) := by
  subst e
  exact fun H locs ls h1 h2 h3 => lv_ldiv C.1 C.2.1 dg hne (kk H locs ls h1 h2 h3)
theorem r_lrem (C : Cx g k own cc nL rt d mc ms) {x y : Int64} (dg : decode cc pc = .ok (.lrem, 1)) (hne : ¬ x = 0) (e : pc + 1 = q) (kk : V g k nL w cells slots Q q lv (.long (y - y / x * x) :: st)) : V g k nL w cells slots Q pc lv (.long x :: .long y :: st) := by
  subst e
  exact fun H locs ls h1 h2 h3 => lv_lrem C.1 C.2.1 dg hne (kk H locs ls h1 h2 h3)
theorem r_iushr (C : Cx g k own cc nL rt d mc ms) {x y : Int32} (dg : decode cc pc = .ok (.iushr, 1))  (e : pc + 1 = q) (kk : V g k nL w cells slots Q q lv (.int (y.toUInt32 >>> (x.toUInt32 &&& Int32.toUInt32 31)).toInt32 :: st)) : V g k nL w cells slots Q pc lv (.int x :: .int y :: st) := by
  subst e
  exact fun H locs ls h1 h2 h3 => lv_iushr C.1 C.2.1 dg rfl (kk H locs ls h1 h2 h3)
theorem r_lushr (C : Cx g k own cc nL rt d mc ms) {x : Int32} {y : Int64} (dg : decode cc pc = .ok (.lushr, 1))  (e : pc + 1 = q) (kk : V g k nL w cells slots Q q lv (.long (y.toUInt64 >>> (x.toInt64.toUInt64 &&& Int64.toUInt64 63)).toInt64 :: st)) : V g k nL w cells slots Q pc lv (.int x :: .long y :: st) := by
  subst e
  exact fun H locs ls h1 h2 h3 => lv_lushr C.1 C.2.1 dg rfl (kk H locs ls h1 h2 h3)
theorem r_lshl (C : Cx g k own cc nL rt d mc ms) {x : Int32} {y : Int64} (dg : decode cc pc = .ok (.lshl, 1))  (e : pc + 1 = q) (kk : V g k nL w cells slots Q q lv (.long (y <<< (x.toInt64 &&& 63)) :: st)) : V g k nL w cells slots Q pc lv (.int x :: .long y :: st) := by
  subst e
  exact fun H locs ls h1 h2 h3 => lv_lshl C.1 C.2.1 dg rfl (kk H locs ls h1 h2 h3)
theorem r_lshr (C : Cx g k own cc nL rt d mc ms) {x : Int32} {y : Int64} (dg : decode cc pc = .ok (.lshr, 1))  (e : pc + 1 = q) (kk : V g k nL w cells slots Q q lv (.long (y >>> (x.toInt64 &&& 63)) :: st)) : V g k nL w cells slots Q pc lv (.int x :: .long y :: st) := by
  subst e
  exact fun H locs ls h1 h2 h3 => lv_lshr C.1 C.2.1 dg rfl (kk H locs ls h1 h2 h3)
theorem r_i2l (C : Cx g k own cc nL rt d mc ms) {x : Int32} (dg : decode cc pc = .ok (.i2l, 1))  (e : pc + 1 = q) (kk : V g k nL w cells slots Q q lv (.long x.toInt64 :: st)) : V g k nL w cells slots Q pc lv (.int x :: st) := by
  subst e
  exact fun H locs ls h1 h2 h3 => lv_i2l C.1 C.2.1 dg rfl (kk H locs ls h1 h2 h3)
theorem r_l2i (C : Cx g k own cc nL rt d mc ms) {x : Int64} (dg : decode cc pc = .ok (.l2i, 1))  (e : pc + 1 = q) (kk : V g k nL w cells slots Q q lv (.int x.toInt32 :: st)) : V g k nL w cells slots Q pc lv (.long x :: st) := by
  subst e
  exact fun H locs ls h1 h2 h3 => lv_l2i C.1 C.2.1 dg rfl (kk H locs ls h1 h2 h3)
theorem r_i2b (C : Cx g k own cc nL rt d mc ms) {x : Int32} (dg : decode cc pc = .ok (.i2b, 1))  (e : pc + 1 = q) (kk : V g k nL w cells slots Q q lv (.int x.toInt8.toInt32 :: st)) : V g k nL w cells slots Q pc lv (.int x :: st) := by
  subst e
  exact fun H locs ls h1 h2 h3 => lv_i2b C.1 C.2.1 dg rfl (kk H locs ls h1 h2 h3)
theorem r_i2c (C : Cx g k own cc nL rt d mc ms) {x : Int32} (dg : decode cc pc = .ok (.i2c, 1))  (e : pc + 1 = q) (kk : V g k nL w cells slots Q q lv (.int (x.toUInt32 % 65536).toInt32 :: st)) : V g k nL w cells slots Q pc lv (.int x :: st) := by
  subst e
  exact fun H locs ls h1 h2 h3 => lv_i2c C.1 C.2.1 dg rfl (kk H locs ls h1 h2 h3)
theorem r_iconst (C : Cx g k own cc nL rt d mc ms) {n : Int} (v : Int32) (dg : decode cc pc = .ok (.iconst n, 1)) (hv : Int32.ofInt n = v) (e : pc + 1 = q) (kk : V g k nL w cells slots Q q lv (.int v :: st)) : V g k nL w cells slots Q pc lv st := by
  subst e
  exact fun H locs ls h1 h2 h3 => lv_iconst C.1 C.2.1 dg hv (kk H locs ls h1 h2 h3)
theorem r_bipush (C : Cx g k own cc nL rt d mc ms) {n : Int} (v : Int32) (dg : decode cc pc = .ok (.bipush n, 2)) (hv : (Int8.ofInt n).toInt32 = v) (e : pc + 2 = q) (kk : V g k nL w cells slots Q q lv (.int v :: st)) : V g k nL w cells slots Q pc lv st := by
  subst e
  exact fun H locs ls h1 h2 h3 => lv_bipush C.1 C.2.1 dg hv (kk H locs ls h1 h2 h3)
theorem r_sipush (C : Cx g k own cc nL rt d mc ms) {n : Int} (v : Int32) (dg : decode cc pc = .ok (.sipush n, 3)) (hv : (Int16.ofInt n).toInt32 = v) (e : pc + 3 = q) (kk : V g k nL w cells slots Q q lv (.int v :: st)) : V g k nL w cells slots Q pc lv st := by
  subst e
  exact fun H locs ls h1 h2 h3 => lv_sipush C.1 C.2.1 dg hv (kk H locs ls h1 h2 h3)
theorem r_lconst (C : Cx g k own cc nL rt d mc ms) {n : Fin 2} (v : Int64) (dg : decode cc pc = .ok (.lconst n, 1)) (hv : Int64.ofNat (n : Nat) = v) (e : pc + 1 = q) (kk : V g k nL w cells slots Q q lv (.long v :: st)) : V g k nL w cells slots Q pc lv st := by
  subst e
  exact fun H locs ls h1 h2 h3 => lv_lconst C.1 C.2.1 dg hv (kk H locs ls h1 h2 h3)
theorem r_ldc (C : Cx g k own cc nL rt d mc ms) {ix : Nat} {v : Int32} (dg : decode cc pc = .ok (.ldc ix, 2)) (hc : Cond.constant own ix v ∈ GW) (e : pc + 2 = q) (kk : V g k nL w cells slots Q q lv (.int v :: st)) : V g k nL w cells slots Q pc lv st := by
  subst e
  exact fun H locs ls h1 h2 h3 => lv_ldc C.1 C.2.1 C.2.2.2.1 (C.2.2.2.2.1 _ hc) dg (kk H locs ls h1 h2 h3)
theorem r_ldc2 (C : Cx g k own cc nL rt d mc ms) {ix : Nat} {v : Int64} (dg : decode cc pc = .ok (.ldc2_w ix, 3)) (hc : Cond.constantLong own ix v ∈ GW) (e : pc + 3 = q) (kk : V g k nL w cells slots Q q lv (.long v :: st)) : V g k nL w cells slots Q pc lv st := by
  subst e
  exact fun H locs ls h1 h2 h3 => lv_ldc2 C.1 C.2.1 C.2.2.2.1 (C.2.2.2.2.1 _ hc) dg (kk H locs ls h1 h2 h3)
theorem r_null (C : Cx g k own cc nL rt d mc ms)  (dg : decode cc pc = .ok (.aconst_null, 1))  (e : pc + 1 = q) (kk : V g k nL w cells slots Q q lv (.null :: st)) : V g k nL w cells slots Q pc lv st := by
  subst e
  exact fun H locs ls h1 h2 h3 => lv_null C.1 C.2.1 dg (kk H locs ls h1 h2 h3)
theorem r_pop (C : Cx g k own cc nL rt d mc ms) {va : Value} (dg : decode cc pc = .ok (.pop, 1)) (hva : va.category = 1) (e : pc + 1 = q) (kk : V g k nL w cells slots Q q lv st) : V g k nL w cells slots Q pc lv (va :: st) := by
  subst e
  exact fun H locs ls h1 h2 h3 => lv_pop C.1 C.2.1 dg hva (kk H locs ls h1 h2 h3)
theorem r_dup (C : Cx g k own cc nL rt d mc ms) {va : Value} (dg : decode cc pc = .ok (.dup, 1)) (hva : va.category = 1) (e : pc + 1 = q) (kk : V g k nL w cells slots Q q lv (va :: va :: st)) : V g k nL w cells slots Q pc lv (va :: st) := by
  subst e
  exact fun H locs ls h1 h2 h3 => lv_dup C.1 C.2.1 dg hva (kk H locs ls h1 h2 h3)
theorem r_dup_x1 (C : Cx g k own cc nL rt d mc ms) {va vb : Value} (dg : decode cc pc = .ok (.dup_x1, 1)) (hva : va.category = 1) (hvb : vb.category = 1) (e : pc + 1 = q) (kk : V g k nL w cells slots Q q lv (va :: vb :: va :: st)) : V g k nL w cells slots Q pc lv (va :: vb :: st) := by
  subst e
  exact fun H locs ls h1 h2 h3 => lv_dup_x1 C.1 C.2.1 dg hva hvb (kk H locs ls h1 h2 h3)
theorem r_dup2 (C : Cx g k own cc nL rt d mc ms) {va vb : Value} (dg : decode cc pc = .ok (.dup2, 1)) (hva : va.category = 1) (hvb : vb.category = 1) (e : pc + 1 = q) (kk : V g k nL w cells slots Q q lv (va :: vb :: va :: vb :: st)) : V g k nL w cells slots Q pc lv (va :: vb :: st) := by
  subst e
  exact fun H locs ls h1 h2 h3 => lv_dup2_11 C.1 C.2.1 dg hva hvb (kk H locs ls h1 h2 h3)
theorem r_dup2l (C : Cx g k own cc nL rt d mc ms) {va : Value} (dg : decode cc pc = .ok (.dup2, 1)) (hva : va.category = 2) (e : pc + 1 = q) (kk : V g k nL w cells slots Q q lv (va :: va :: st)) : V g k nL w cells slots Q pc lv (va :: st) := by
  subst e
  exact fun H locs ls h1 h2 h3 => lv_dup2_2 C.1 C.2.1 dg hva (kk H locs ls h1 h2 h3)
theorem r_iload_n (C : Cx g k own cc nL rt d mc ms) {i : Fin 4} {x : Int32} (j : Nat) (dg : decode cc pc = .ok (.iload_n i, 1)) (hl : lv[j]? = some ((i : Nat), .int x)) (e : pc + 1 = q) (kk : V g k nL w cells slots Q q lv (.int x :: st)) : V g k nL w cells slots Q pc lv st := by
  subst e
  exact fun H locs ls h1 h2 h3 => lv_iload_n C.1 C.2.1 dg rfl (lv_at h3 j hl) (kk H locs ls h1 h2 h3)
theorem r_iload (C : Cx g k own cc nL rt d mc ms) {i : Nat} {x : Int32} (j : Nat) (dg : decode cc pc = .ok (.iload i, 2)) (hl : lv[j]? = some (i, .int x)) (e : pc + 2 = q) (kk : V g k nL w cells slots Q q lv (.int x :: st)) : V g k nL w cells slots Q pc lv st := by
  subst e
  exact fun H locs ls h1 h2 h3 => lv_iload C.1 C.2.1 dg (lv_at h3 j hl) (kk H locs ls h1 h2 h3)
theorem r_lload_n (C : Cx g k own cc nL rt d mc ms) {i : Fin 4} {x : Int64} (j : Nat) (dg : decode cc pc = .ok (.lload_n i, 1)) (hl : lv[j]? = some ((i : Nat), .long x)) (e : pc + 1 = q) (kk : V g k nL w cells slots Q q lv (.long x :: st)) : V g k nL w cells slots Q pc lv st := by
  subst e
  exact fun H locs ls h1 h2 h3 => lv_lload_n C.1 C.2.1 dg rfl (lv_at h3 j hl) (kk H locs ls h1 h2 h3)
theorem r_lload (C : Cx g k own cc nL rt d mc ms) {i : Nat} {x : Int64} (j : Nat) (dg : decode cc pc = .ok (.lload i, 2)) (hl : lv[j]? = some (i, .long x)) (e : pc + 2 = q) (kk : V g k nL w cells slots Q q lv (.long x :: st)) : V g k nL w cells slots Q pc lv st := by
  subst e
  exact fun H locs ls h1 h2 h3 => lv_lload C.1 C.2.1 dg (lv_at h3 j hl) (kk H locs ls h1 h2 h3)
theorem r_aload_n (C : Cx g k own cc nL rt d mc ms) {i : Fin 4} {x : Nat} (j : Nat) (dg : decode cc pc = .ok (.aload_n i, 1)) (hl : lv[j]? = some ((i : Nat), .ref x)) (e : pc + 1 = q) (kk : V g k nL w cells slots Q q lv (.ref x :: st)) : V g k nL w cells slots Q pc lv st := by
  subst e
  exact fun H locs ls h1 h2 h3 => lv_aload_n C.1 C.2.1 dg rfl (lv_at h3 j hl) (kk H locs ls h1 h2 h3)
theorem r_aload (C : Cx g k own cc nL rt d mc ms) {i : Nat} {x : Nat} (j : Nat) (dg : decode cc pc = .ok (.aload i, 2)) (hl : lv[j]? = some (i, .ref x)) (e : pc + 2 = q) (kk : V g k nL w cells slots Q q lv (.ref x :: st)) : V g k nL w cells slots Q pc lv st := by
  subst e
  exact fun H locs ls h1 h2 h3 => lv_aload C.1 C.2.1 dg (lv_at h3 j hl) (kk H locs ls h1 h2 h3)
theorem r_aload_nN (C : Cx g k own cc nL rt d mc ms) {i : Fin 4} (j : Nat) (dg : decode cc pc = .ok (.aload_n i, 1)) (hl : lv[j]? = some ((i : Nat), .null)) (e : pc + 1 = q) (kk : V g k nL w cells slots Q q lv (.null :: st)) : V g k nL w cells slots Q pc lv st := by
  subst e
  exact fun H locs ls h1 h2 h3 => lv_aload_nN C.1 C.2.1 dg rfl (lv_at h3 j hl) (kk H locs ls h1 h2 h3)
theorem r_aloadN (C : Cx g k own cc nL rt d mc ms) {i : Nat} (j : Nat) (dg : decode cc pc = .ok (.aload i, 2)) (hl : lv[j]? = some (i, .null)) (e : pc + 2 = q) (kk : V g k nL w cells slots Q q lv (.null :: st)) : V g k nL w cells slots Q pc lv st := by
  subst e
  exact fun H locs ls h1 h2 h3 => lv_aloadN C.1 C.2.1 dg (lv_at h3 j hl) (kk H locs ls h1 h2 h3)
theorem r_istore_n (C : Cx g k own cc nL rt d mc ms) {i : Fin 4} {x : Int32} (dg : decode cc pc = .ok (.istore_n i, 1)) (hn : (i : Nat) < nL) (hl : ((i : Nat), (.int x : Value)) :: lv.filter (fun z => !(z.1 == (i : Nat)) && !(z.1 + 1 == (i : Nat) && z.2.category == 2)) = lv') (e : pc + 1 = q) (kk : V g k nL w cells slots Q q lv' st) : V g k nL w cells slots Q pc lv (.int x :: st) := by
  subst e
  exact fun H locs ls h1 h2 h3 => lv_istore_n C.1 C.2.1 dg rfl h3 hn hl (fun ls9 h9 => kk H locs ls9 h1 h2 h9)
theorem r_istore (C : Cx g k own cc nL rt d mc ms) {i : Nat} {x : Int32} (dg : decode cc pc = .ok (.istore i, 2)) (hn : i < nL) (hl : ((i : Nat), (.int x : Value)) :: lv.filter (fun z => !(z.1 == (i : Nat)) && !(z.1 + 1 == (i : Nat) && z.2.category == 2)) = lv') (e : pc + 2 = q) (kk : V g k nL w cells slots Q q lv' st) : V g k nL w cells slots Q pc lv (.int x :: st) := by
  subst e
  exact fun H locs ls h1 h2 h3 => lv_istore C.1 C.2.1 dg h3 hn hl (fun ls9 h9 => kk H locs ls9 h1 h2 h9)
theorem r_lstore_n (C : Cx g k own cc nL rt d mc ms) {i : Fin 4} {x : Int64} (dg : decode cc pc = .ok (.lstore_n i, 1)) (hn : (i : Nat) + 1 < nL) (hl : ((i : Nat), (.long x : Value)) :: lv.filter (fun z => !(z.1 == (i : Nat)) && (!(z.1 == (i : Nat) + 1) && !(z.1 + 1 == (i : Nat) && z.2.category == 2))) = lv') (e : pc + 1 = q) (kk : V g k nL w cells slots Q q lv' st) : V g k nL w cells slots Q pc lv (.long x :: st) := by
  subst e
  exact fun H locs ls h1 h2 h3 => lv_lstore_n C.1 C.2.1 dg rfl h3 hn hl (fun ls9 h9 => kk H locs ls9 h1 h2 h9)
theorem r_lstore (C : Cx g k own cc nL rt d mc ms) {i : Nat} {x : Int64} (dg : decode cc pc = .ok (.lstore i, 2)) (hn : i + 1 < nL) (hl : ((i : Nat), (.long x : Value)) :: lv.filter (fun z => !(z.1 == (i : Nat)) && (!(z.1 == (i : Nat) + 1) && !(z.1 + 1 == (i : Nat) && z.2.category == 2))) = lv') (e : pc + 2 = q) (kk : V g k nL w cells slots Q q lv' st) : V g k nL w cells slots Q pc lv (.long x :: st) := by
  subst e
  exact fun H locs ls h1 h2 h3 => lv_lstore C.1 C.2.1 dg h3 hn hl (fun ls9 h9 => kk H locs ls9 h1 h2 h9)
theorem r_astore_n (C : Cx g k own cc nL rt d mc ms) {i : Fin 4} {x : Nat} (dg : decode cc pc = .ok (.astore_n i, 1)) (hn : (i : Nat) < nL) (hl : ((i : Nat), (.ref x : Value)) :: lv.filter (fun z => !(z.1 == (i : Nat)) && !(z.1 + 1 == (i : Nat) && z.2.category == 2)) = lv') (e : pc + 1 = q) (kk : V g k nL w cells slots Q q lv' st) : V g k nL w cells slots Q pc lv (.ref x :: st) := by
  subst e
  exact fun H locs ls h1 h2 h3 => lv_astore_n C.1 C.2.1 dg rfl h3 hn hl (fun ls9 h9 => kk H locs ls9 h1 h2 h9)
theorem r_astore (C : Cx g k own cc nL rt d mc ms) {i : Nat} {x : Nat} (dg : decode cc pc = .ok (.astore i, 2)) (hn : i < nL) (hl : ((i : Nat), (.ref x : Value)) :: lv.filter (fun z => !(z.1 == (i : Nat)) && !(z.1 + 1 == (i : Nat) && z.2.category == 2)) = lv') (e : pc + 2 = q) (kk : V g k nL w cells slots Q q lv' st) : V g k nL w cells slots Q pc lv (.ref x :: st) := by
  subst e
  exact fun H locs ls h1 h2 h3 => lv_astore C.1 C.2.1 dg h3 hn hl (fun ls9 h9 => kk H locs ls9 h1 h2 h9)
theorem r_astore_nN (C : Cx g k own cc nL rt d mc ms) {i : Fin 4}  (dg : decode cc pc = .ok (.astore_n i, 1)) (hn : (i : Nat) < nL) (hl : ((i : Nat), (.null : Value)) :: lv.filter (fun z => !(z.1 == (i : Nat)) && !(z.1 + 1 == (i : Nat) && z.2.category == 2)) = lv') (e : pc + 1 = q) (kk : V g k nL w cells slots Q q lv' st) : V g k nL w cells slots Q pc lv (.null :: st) := by
  subst e
  exact fun H locs ls h1 h2 h3 => lv_astore_nN C.1 C.2.1 dg rfl h3 hn hl (fun ls9 h9 => kk H locs ls9 h1 h2 h9)
theorem r_astoreN (C : Cx g k own cc nL rt d mc ms) {i : Nat}  (dg : decode cc pc = .ok (.astore i, 2)) (hn : i < nL) (hl : ((i : Nat), (.null : Value)) :: lv.filter (fun z => !(z.1 == (i : Nat)) && !(z.1 + 1 == (i : Nat) && z.2.category == 2)) = lv') (e : pc + 2 = q) (kk : V g k nL w cells slots Q q lv' st) : V g k nL w cells slots Q pc lv (.null :: st) := by
  subst e
  exact fun H locs ls h1 h2 h3 => lv_astoreN C.1 C.2.1 dg h3 hn hl (fun ls9 h9 => kk H locs ls9 h1 h2 h9)
theorem r_iinc (C : Cx g k own cc nL rt d mc ms) {i : Nat} {n : Int} {x v : Int32} (j : Nat) (dg : decode cc pc = .ok (.iinc i n, 3)) (hk : lv[j]? = some (i, .int x)) (hv : x + Int32.ofInt n = v) (hn : i < nL) (hl : (i, Value.int v) :: lv.filter (fun z => !(z.1 == i) && !(z.1 + 1 == i && z.2.category == 2)) = lv') (e : pc + 3 = q) (kk : V g k nL w cells slots Q q lv' st) : V g k nL w cells slots Q pc lv st := by
  subst e
  exact fun H locs ls h1 h2 h3 => lv_iinc C.1 C.2.1 dg h3 hk hv hn hl (fun ls9 h9 => kk H locs ls9 h1 h2 h9)
theorem r_icmp_eq (C : Cx g k own cc nL rt d mc ms) {off : Int} {tgt : Nat} {x y : Int32} (dg : decode cc pc = .ok (.if_icmp .eq off, 3)) (ht : (pc : Int) + off = (tgt : Int)) (e : pc + 3 = q) (kt : y = x → V g k nL w cells slots Q tgt lv st) (kf : ¬ y = x → V g k nL w cells slots Q q lv st) : V g k nL w cells slots Q pc lv (.int x :: .int y :: st) := by
  subst e
  exact fun H locs ls h1 h2 h3 => lv_icmp_eq C.1 C.2.1 dg ht (fun z => kt z H locs ls h1 h2 h3) (fun z => kf z H locs ls h1 h2 h3)
theorem r_icmp_eq_t (C : Cx g k own cc nL rt d mc ms) {off : Int} {tgt : Nat} {x y : Int32} (dg : decode cc pc = .ok (.if_icmp .eq off, 3)) (ht : (pc : Int) + off = (tgt : Int)) (z : y = x) (kt : V g k nL w cells slots Q tgt lv st) : V g k nL w cells slots Q pc lv (.int x :: .int y :: st) := r_icmp_eq C dg ht rfl (fun _ => kt) (fun z9 => absurd z (by first | exact z9 | exact fun zz => zz z9))
theorem r_icmp_eq_f (C : Cx g k own cc nL rt d mc ms) {off : Int} {tgt : Nat} {x y : Int32} (dg : decode cc pc = .ok (.if_icmp .eq off, 3)) (ht : (pc : Int) + off = (tgt : Int)) (e : pc + 3 = q) (z : ¬ y = x) (kf : V g k nL w cells slots Q q lv st) : V g k nL w cells slots Q pc lv (.int x :: .int y :: st) := r_icmp_eq C dg ht e (fun z9 => absurd z (by first | exact z9 | exact fun zz => zz z9)) (fun _ => kf)
theorem r_icmp_ne (C : Cx g k own cc nL rt d mc ms) {off : Int} {tgt : Nat} {x y : Int32} (dg : decode cc pc = .ok (.if_icmp .ne off, 3)) (ht : (pc : Int) + off = (tgt : Int)) (e : pc + 3 = q) (kt : ¬ y = x → V g k nL w cells slots Q tgt lv st) (kf : y = x → V g k nL w cells slots Q q lv st) : V g k nL w cells slots Q pc lv (.int x :: .int y :: st) := by
  subst e
  exact fun H locs ls h1 h2 h3 => lv_icmp_ne C.1 C.2.1 dg ht (fun z => kt z H locs ls h1 h2 h3) (fun z => kf z H locs ls h1 h2 h3)
theorem r_icmp_ne_t (C : Cx g k own cc nL rt d mc ms) {off : Int} {tgt : Nat} {x y : Int32} (dg : decode cc pc = .ok (.if_icmp .ne off, 3)) (ht : (pc : Int) + off = (tgt : Int)) (z : ¬ y = x) (kt : V g k nL w cells slots Q tgt lv st) : V g k nL w cells slots Q pc lv (.int x :: .int y :: st) := r_icmp_ne C dg ht rfl (fun _ => kt) (fun z9 => absurd z (by first | exact z9 | exact fun zz => zz z9))
theorem r_icmp_ne_f (C : Cx g k own cc nL rt d mc ms) {off : Int} {tgt : Nat} {x y : Int32} (dg : decode cc pc = .ok (.if_icmp .ne off, 3)) (ht : (pc : Int) + off = (tgt : Int)) (e : pc + 3 = q) (z : y = x) (kf : V g k nL w cells slots Q q lv st) : V g k nL w cells slots Q pc lv (.int x :: .int y :: st) := r_icmp_ne C dg ht e (fun z9 => absurd z (by first | exact z9 | exact fun zz => zz z9)) (fun _ => kf)
theorem r_icmp_lt (C : Cx g k own cc nL rt d mc ms) {off : Int} {tgt : Nat} {x y : Int32} (dg : decode cc pc = .ok (.if_icmp .lt off, 3)) (ht : (pc : Int) + off = (tgt : Int)) (e : pc + 3 = q) (kt : y < x → V g k nL w cells slots Q tgt lv st) (kf : ¬ y < x → V g k nL w cells slots Q q lv st) : V g k nL w cells slots Q pc lv (.int x :: .int y :: st) := by
  subst e
  exact fun H locs ls h1 h2 h3 => lv_icmp_lt C.1 C.2.1 dg ht (fun z => kt z H locs ls h1 h2 h3) (fun z => kf z H locs ls h1 h2 h3)
theorem r_icmp_lt_t (C : Cx g k own cc nL rt d mc ms) {off : Int} {tgt : Nat} {x y : Int32} (dg : decode cc pc = .ok (.if_icmp .lt off, 3)) (ht : (pc : Int) + off = (tgt : Int)) (z : y < x) (kt : V g k nL w cells slots Q tgt lv st) : V g k nL w cells slots Q pc lv (.int x :: .int y :: st) := r_icmp_lt C dg ht rfl (fun _ => kt) (fun z9 => absurd z (by first | exact z9 | exact fun zz => zz z9))
theorem r_icmp_lt_f (C : Cx g k own cc nL rt d mc ms) {off : Int} {tgt : Nat} {x y : Int32} (dg : decode cc pc = .ok (.if_icmp .lt off, 3)) (ht : (pc : Int) + off = (tgt : Int)) (e : pc + 3 = q) (z : ¬ y < x) (kf : V g k nL w cells slots Q q lv st) : V g k nL w cells slots Q pc lv (.int x :: .int y :: st) := r_icmp_lt C dg ht e (fun z9 => absurd z (by first | exact z9 | exact fun zz => zz z9)) (fun _ => kf)
theorem r_icmp_ge (C : Cx g k own cc nL rt d mc ms) {off : Int} {tgt : Nat} {x y : Int32} (dg : decode cc pc = .ok (.if_icmp .ge off, 3)) (ht : (pc : Int) + off = (tgt : Int)) (e : pc + 3 = q) (kt : x ≤ y → V g k nL w cells slots Q tgt lv st) (kf : ¬ x ≤ y → V g k nL w cells slots Q q lv st) : V g k nL w cells slots Q pc lv (.int x :: .int y :: st) := by
  subst e
  exact fun H locs ls h1 h2 h3 => lv_icmp_ge C.1 C.2.1 dg ht (fun z => kt z H locs ls h1 h2 h3) (fun z => kf z H locs ls h1 h2 h3)
theorem r_icmp_ge_t (C : Cx g k own cc nL rt d mc ms) {off : Int} {tgt : Nat} {x y : Int32} (dg : decode cc pc = .ok (.if_icmp .ge off, 3)) (ht : (pc : Int) + off = (tgt : Int)) (z : x ≤ y) (kt : V g k nL w cells slots Q tgt lv st) : V g k nL w cells slots Q pc lv (.int x :: .int y :: st) := r_icmp_ge C dg ht rfl (fun _ => kt) (fun z9 => absurd z (by first | exact z9 | exact fun zz => zz z9))
theorem r_icmp_ge_f (C : Cx g k own cc nL rt d mc ms) {off : Int} {tgt : Nat} {x y : Int32} (dg : decode cc pc = .ok (.if_icmp .ge off, 3)) (ht : (pc : Int) + off = (tgt : Int)) (e : pc + 3 = q) (z : ¬ x ≤ y) (kf : V g k nL w cells slots Q q lv st) : V g k nL w cells slots Q pc lv (.int x :: .int y :: st) := r_icmp_ge C dg ht e (fun z9 => absurd z (by first | exact z9 | exact fun zz => zz z9)) (fun _ => kf)
theorem r_icmp_gt (C : Cx g k own cc nL rt d mc ms) {off : Int} {tgt : Nat} {x y : Int32} (dg : decode cc pc = .ok (.if_icmp .gt off, 3)) (ht : (pc : Int) + off = (tgt : Int)) (e : pc + 3 = q) (kt : x < y → V g k nL w cells slots Q tgt lv st) (kf : ¬ x < y → V g k nL w cells slots Q q lv st) : V g k nL w cells slots Q pc lv (.int x :: .int y :: st) := by
  subst e
  exact fun H locs ls h1 h2 h3 => lv_icmp_gt C.1 C.2.1 dg ht (fun z => kt z H locs ls h1 h2 h3) (fun z => kf z H locs ls h1 h2 h3)
theorem r_icmp_gt_t (C : Cx g k own cc nL rt d mc ms) {off : Int} {tgt : Nat} {x y : Int32} (dg : decode cc pc = .ok (.if_icmp .gt off, 3)) (ht : (pc : Int) + off = (tgt : Int)) (z : x < y) (kt : V g k nL w cells slots Q tgt lv st) : V g k nL w cells slots Q pc lv (.int x :: .int y :: st) := r_icmp_gt C dg ht rfl (fun _ => kt) (fun z9 => absurd z (by first | exact z9 | exact fun zz => zz z9))
theorem r_icmp_gt_f (C : Cx g k own cc nL rt d mc ms) {off : Int} {tgt : Nat} {x y : Int32} (dg : decode cc pc = .ok (.if_icmp .gt off, 3)) (ht : (pc : Int) + off = (tgt : Int)) (e : pc + 3 = q) (z : ¬ x < y) (kf : V g k nL w cells slots Q q lv st) : V g k nL w cells slots Q pc lv (.int x :: .int y :: st) := r_icmp_gt C dg ht e (fun z9 => absurd z (by first | exact z9 | exact fun zz => zz z9)) (fun _ => kf)
theorem r_icmp_le (C : Cx g k own cc nL rt d mc ms) {off : Int} {tgt : Nat} {x y : Int32} (dg : decode cc pc = .ok (.if_icmp .le off, 3)) (ht : (pc : Int) + off = (tgt : Int)) (e : pc + 3 = q) (kt : y ≤ x → V g k nL w cells slots Q tgt lv st) (kf : ¬ y ≤ x → V g k nL w cells slots Q q lv st) : V g k nL w cells slots Q pc lv (.int x :: .int y :: st) := by
  subst e
  exact fun H locs ls h1 h2 h3 => lv_icmp_le C.1 C.2.1 dg ht (fun z => kt z H locs ls h1 h2 h3) (fun z => kf z H locs ls h1 h2 h3)
theorem r_icmp_le_t (C : Cx g k own cc nL rt d mc ms) {off : Int} {tgt : Nat} {x y : Int32} (dg : decode cc pc = .ok (.if_icmp .le off, 3)) (ht : (pc : Int) + off = (tgt : Int)) (z : y ≤ x) (kt : V g k nL w cells slots Q tgt lv st) : V g k nL w cells slots Q pc lv (.int x :: .int y :: st) := r_icmp_le C dg ht rfl (fun _ => kt) (fun z9 => absurd z (by first | exact z9 | exact fun zz => zz z9))
theorem r_icmp_le_f (C : Cx g k own cc nL rt d mc ms) {off : Int} {tgt : Nat} {x y : Int32} (dg : decode cc pc = .ok (.if_icmp .le off, 3)) (ht : (pc : Int) + off = (tgt : Int)) (e : pc + 3 = q) (z : ¬ y ≤ x) (kf : V g k nL w cells slots Q q lv st) : V g k nL w cells slots Q pc lv (.int x :: .int y :: st) := r_icmp_le C dg ht e (fun z9 => absurd z (by first | exact z9 | exact fun zz => zz z9)) (fun _ => kf)
theorem r_if_eq (C : Cx g k own cc nL rt d mc ms) {off : Int} {tgt : Nat} {y : Int32} (dg : decode cc pc = .ok (.ifCond .eq off, 3)) (ht : (pc : Int) + off = (tgt : Int)) (e : pc + 3 = q) (kt : y = 0 → V g k nL w cells slots Q tgt lv st) (kf : ¬ y = 0 → V g k nL w cells slots Q q lv st) : V g k nL w cells slots Q pc lv (.int y :: st) := by
  subst e
  exact fun H locs ls h1 h2 h3 => lv_if_eq C.1 C.2.1 dg ht (fun z => kt z H locs ls h1 h2 h3) (fun z => kf z H locs ls h1 h2 h3)
theorem r_if_eq_t (C : Cx g k own cc nL rt d mc ms) {off : Int} {tgt : Nat} {y : Int32} (dg : decode cc pc = .ok (.ifCond .eq off, 3)) (ht : (pc : Int) + off = (tgt : Int)) (z : y = 0) (kt : V g k nL w cells slots Q tgt lv st) : V g k nL w cells slots Q pc lv (.int y :: st) := r_if_eq C dg ht rfl (fun _ => kt) (fun z9 => absurd z (by first | exact z9 | exact fun zz => zz z9))
theorem r_if_eq_f (C : Cx g k own cc nL rt d mc ms) {off : Int} {tgt : Nat} {y : Int32} (dg : decode cc pc = .ok (.ifCond .eq off, 3)) (ht : (pc : Int) + off = (tgt : Int)) (e : pc + 3 = q) (z : ¬ y = 0) (kf : V g k nL w cells slots Q q lv st) : V g k nL w cells slots Q pc lv (.int y :: st) := r_if_eq C dg ht e (fun z9 => absurd z (by first | exact z9 | exact fun zz => zz z9)) (fun _ => kf)
theorem r_if_ne (C : Cx g k own cc nL rt d mc ms) {off : Int} {tgt : Nat} {y : Int32} (dg : decode cc pc = .ok (.ifCond .ne off, 3)) (ht : (pc : Int) + off = (tgt : Int)) (e : pc + 3 = q) (kt : ¬ y = 0 → V g k nL w cells slots Q tgt lv st) (kf : y = 0 → V g k nL w cells slots Q q lv st) : V g k nL w cells slots Q pc lv (.int y :: st) := by
  subst e
  exact fun H locs ls h1 h2 h3 => lv_if_ne C.1 C.2.1 dg ht (fun z => kt z H locs ls h1 h2 h3) (fun z => kf z H locs ls h1 h2 h3)
theorem r_if_ne_t (C : Cx g k own cc nL rt d mc ms) {off : Int} {tgt : Nat} {y : Int32} (dg : decode cc pc = .ok (.ifCond .ne off, 3)) (ht : (pc : Int) + off = (tgt : Int)) (z : ¬ y = 0) (kt : V g k nL w cells slots Q tgt lv st) : V g k nL w cells slots Q pc lv (.int y :: st) := r_if_ne C dg ht rfl (fun _ => kt) (fun z9 => absurd z (by first | exact z9 | exact fun zz => zz z9))
theorem r_if_ne_f (C : Cx g k own cc nL rt d mc ms) {off : Int} {tgt : Nat} {y : Int32} (dg : decode cc pc = .ok (.ifCond .ne off, 3)) (ht : (pc : Int) + off = (tgt : Int)) (e : pc + 3 = q) (z : y = 0) (kf : V g k nL w cells slots Q q lv st) : V g k nL w cells slots Q pc lv (.int y :: st) := r_if_ne C dg ht e (fun z9 => absurd z (by first | exact z9 | exact fun zz => zz z9)) (fun _ => kf)
theorem r_if_lt (C : Cx g k own cc nL rt d mc ms) {off : Int} {tgt : Nat} {y : Int32} (dg : decode cc pc = .ok (.ifCond .lt off, 3)) (ht : (pc : Int) + off = (tgt : Int)) (e : pc + 3 = q) (kt : y < 0 → V g k nL w cells slots Q tgt lv st) (kf : ¬ y < 0 → V g k nL w cells slots Q q lv st) : V g k nL w cells slots Q pc lv (.int y :: st) := by
  subst e
  exact fun H locs ls h1 h2 h3 => lv_if_lt C.1 C.2.1 dg ht (fun z => kt z H locs ls h1 h2 h3) (fun z => kf z H locs ls h1 h2 h3)
theorem r_if_lt_t (C : Cx g k own cc nL rt d mc ms) {off : Int} {tgt : Nat} {y : Int32} (dg : decode cc pc = .ok (.ifCond .lt off, 3)) (ht : (pc : Int) + off = (tgt : Int)) (z : y < 0) (kt : V g k nL w cells slots Q tgt lv st) : V g k nL w cells slots Q pc lv (.int y :: st) := r_if_lt C dg ht rfl (fun _ => kt) (fun z9 => absurd z (by first | exact z9 | exact fun zz => zz z9))
theorem r_if_lt_f (C : Cx g k own cc nL rt d mc ms) {off : Int} {tgt : Nat} {y : Int32} (dg : decode cc pc = .ok (.ifCond .lt off, 3)) (ht : (pc : Int) + off = (tgt : Int)) (e : pc + 3 = q) (z : ¬ y < 0) (kf : V g k nL w cells slots Q q lv st) : V g k nL w cells slots Q pc lv (.int y :: st) := r_if_lt C dg ht e (fun z9 => absurd z (by first | exact z9 | exact fun zz => zz z9)) (fun _ => kf)
theorem r_if_ge (C : Cx g k own cc nL rt d mc ms) {off : Int} {tgt : Nat} {y : Int32} (dg : decode cc pc = .ok (.ifCond .ge off, 3)) (ht : (pc : Int) + off = (tgt : Int)) (e : pc + 3 = q) (kt : 0 ≤ y → V g k nL w cells slots Q tgt lv st) (kf : ¬ 0 ≤ y → V g k nL w cells slots Q q lv st) : V g k nL w cells slots Q pc lv (.int y :: st) := by
  subst e
  exact fun H locs ls h1 h2 h3 => lv_if_ge C.1 C.2.1 dg ht (fun z => kt z H locs ls h1 h2 h3) (fun z => kf z H locs ls h1 h2 h3)
theorem r_if_ge_t (C : Cx g k own cc nL rt d mc ms) {off : Int} {tgt : Nat} {y : Int32} (dg : decode cc pc = .ok (.ifCond .ge off, 3)) (ht : (pc : Int) + off = (tgt : Int)) (z : 0 ≤ y) (kt : V g k nL w cells slots Q tgt lv st) : V g k nL w cells slots Q pc lv (.int y :: st) := r_if_ge C dg ht rfl (fun _ => kt) (fun z9 => absurd z (by first | exact z9 | exact fun zz => zz z9))
theorem r_if_ge_f (C : Cx g k own cc nL rt d mc ms) {off : Int} {tgt : Nat} {y : Int32} (dg : decode cc pc = .ok (.ifCond .ge off, 3)) (ht : (pc : Int) + off = (tgt : Int)) (e : pc + 3 = q) (z : ¬ 0 ≤ y) (kf : V g k nL w cells slots Q q lv st) : V g k nL w cells slots Q pc lv (.int y :: st) := r_if_ge C dg ht e (fun z9 => absurd z (by first | exact z9 | exact fun zz => zz z9)) (fun _ => kf)
theorem r_if_gt (C : Cx g k own cc nL rt d mc ms) {off : Int} {tgt : Nat} {y : Int32} (dg : decode cc pc = .ok (.ifCond .gt off, 3)) (ht : (pc : Int) + off = (tgt : Int)) (e : pc + 3 = q) (kt : 0 < y → V g k nL w cells slots Q tgt lv st) (kf : ¬ 0 < y → V g k nL w cells slots Q q lv st) : V g k nL w cells slots Q pc lv (.int y :: st) := by
  subst e
  exact fun H locs ls h1 h2 h3 => lv_if_gt C.1 C.2.1 dg ht (fun z => kt z H locs ls h1 h2 h3) (fun z => kf z H locs ls h1 h2 h3)
theorem r_if_gt_t (C : Cx g k own cc nL rt d mc ms) {off : Int} {tgt : Nat} {y : Int32} (dg : decode cc pc = .ok (.ifCond .gt off, 3)) (ht : (pc : Int) + off = (tgt : Int)) (z : 0 < y) (kt : V g k nL w cells slots Q tgt lv st) : V g k nL w cells slots Q pc lv (.int y :: st) := r_if_gt C dg ht rfl (fun _ => kt) (fun z9 => absurd z (by first | exact z9 | exact fun zz => zz z9))
theorem r_if_gt_f (C : Cx g k own cc nL rt d mc ms) {off : Int} {tgt : Nat} {y : Int32} (dg : decode cc pc = .ok (.ifCond .gt off, 3)) (ht : (pc : Int) + off = (tgt : Int)) (e : pc + 3 = q) (z : ¬ 0 < y) (kf : V g k nL w cells slots Q q lv st) : V g k nL w cells slots Q pc lv (.int y :: st) := r_if_gt C dg ht e (fun z9 => absurd z (by first | exact z9 | exact fun zz => zz z9)) (fun _ => kf)
theorem r_if_le (C : Cx g k own cc nL rt d mc ms) {off : Int} {tgt : Nat} {y : Int32} (dg : decode cc pc = .ok (.ifCond .le off, 3)) (ht : (pc : Int) + off = (tgt : Int)) (e : pc + 3 = q) (kt : y ≤ 0 → V g k nL w cells slots Q tgt lv st) (kf : ¬ y ≤ 0 → V g k nL w cells slots Q q lv st) : V g k nL w cells slots Q pc lv (.int y :: st) := by
  subst e
  exact fun H locs ls h1 h2 h3 => lv_if_le C.1 C.2.1 dg ht (fun z => kt z H locs ls h1 h2 h3) (fun z => kf z H locs ls h1 h2 h3)
theorem r_if_le_t (C : Cx g k own cc nL rt d mc ms) {off : Int} {tgt : Nat} {y : Int32} (dg : decode cc pc = .ok (.ifCond .le off, 3)) (ht : (pc : Int) + off = (tgt : Int)) (z : y ≤ 0) (kt : V g k nL w cells slots Q tgt lv st) : V g k nL w cells slots Q pc lv (.int y :: st) := r_if_le C dg ht rfl (fun _ => kt) (fun z9 => absurd z (by first | exact z9 | exact fun zz => zz z9))
theorem r_if_le_f (C : Cx g k own cc nL rt d mc ms) {off : Int} {tgt : Nat} {y : Int32} (dg : decode cc pc = .ok (.ifCond .le off, 3)) (ht : (pc : Int) + off = (tgt : Int)) (e : pc + 3 = q) (z : ¬ y ≤ 0) (kf : V g k nL w cells slots Q q lv st) : V g k nL w cells slots Q pc lv (.int y :: st) := r_if_le C dg ht e (fun z9 => absurd z (by first | exact z9 | exact fun zz => zz z9)) (fun _ => kf)
theorem r_acmp_eq (C : Cx g k own cc nL rt d mc ms) {off : Int} {tgt : Nat} {x y : Option Nat} (dg : decode cc pc = .ok (.if_acmp .eq off, 3)) (ht : (pc : Int) + off = (tgt : Int)) (e : pc + 3 = q) (kt : y = x → V g k nL w cells slots Q tgt lv st) (kf : ¬ y = x → V g k nL w cells slots Q q lv st) : V g k nL w cells slots Q pc lv (va_rf x :: va_rf y :: st) := by
  subst e
  exact fun H locs ls h1 h2 h3 => lv_acmp_eq C.1 C.2.1 dg ht (fun z => kt z H locs ls h1 h2 h3) (fun z => kf z H locs ls h1 h2 h3)
theorem r_acmp_eq_t (C : Cx g k own cc nL rt d mc ms) {off : Int} {tgt : Nat} {x y : Option Nat} (dg : decode cc pc = .ok (.if_acmp .eq off, 3)) (ht : (pc : Int) + off = (tgt : Int)) (z : y = x) (kt : V g k nL w cells slots Q tgt lv st) : V g k nL w cells slots Q pc lv (va_rf x :: va_rf y :: st) := r_acmp_eq C dg ht rfl (fun _ => kt) (fun z9 => absurd z (by first | exact z9 | exact fun zz => zz z9))
theorem r_acmp_eq_f (C : Cx g k own cc nL rt d mc ms) {off : Int} {tgt : Nat} {x y : Option Nat} (dg : decode cc pc = .ok (.if_acmp .eq off, 3)) (ht : (pc : Int) + off = (tgt : Int)) (e : pc + 3 = q) (z : ¬ y = x) (kf : V g k nL w cells slots Q q lv st) : V g k nL w cells slots Q pc lv (va_rf x :: va_rf y :: st) := r_acmp_eq C dg ht e (fun z9 => absurd z (by first | exact z9 | exact fun zz => zz z9)) (fun _ => kf)
theorem r_acmp_ne (C : Cx g k own cc nL rt d mc ms) {off : Int} {tgt : Nat} {x y : Option Nat} (dg : decode cc pc = .ok (.if_acmp .ne off, 3)) (ht : (pc : Int) + off = (tgt : Int)) (e : pc + 3 = q) (kt : ¬ y = x → V g k nL w cells slots Q tgt lv st) (kf : y = x → V g k nL w cells slots Q q lv st) : V g k nL w cells slots Q pc lv (va_rf x :: va_rf y :: st) := by
  subst e
  exact fun H locs ls h1 h2 h3 => lv_acmp_ne C.1 C.2.1 dg ht (fun z => kt z H locs ls h1 h2 h3) (fun z => kf z H locs ls h1 h2 h3)
theorem r_acmp_ne_t (C : Cx g k own cc nL rt d mc ms) {off : Int} {tgt : Nat} {x y : Option Nat} (dg : decode cc pc = .ok (.if_acmp .ne off, 3)) (ht : (pc : Int) + off = (tgt : Int)) (z : ¬ y = x) (kt : V g k nL w cells slots Q tgt lv st) : V g k nL w cells slots Q pc lv (va_rf x :: va_rf y :: st) := r_acmp_ne C dg ht rfl (fun _ => kt) (fun z9 => absurd z (by first | exact z9 | exact fun zz => zz z9))
theorem r_acmp_ne_f (C : Cx g k own cc nL rt d mc ms) {off : Int} {tgt : Nat} {x y : Option Nat} (dg : decode cc pc = .ok (.if_acmp .ne off, 3)) (ht : (pc : Int) + off = (tgt : Int)) (e : pc + 3 = q) (z : y = x) (kf : V g k nL w cells slots Q q lv st) : V g k nL w cells slots Q pc lv (va_rf x :: va_rf y :: st) := r_acmp_ne C dg ht e (fun z9 => absurd z (by first | exact z9 | exact fun zz => zz z9)) (fun _ => kf)
theorem r_goto (C : Cx g k own cc nL rt d mc ms) {off : Int} {tgt : Nat} (dg : decode cc pc = .ok (.goto off, 3)) (ht : (pc : Int) + off = (tgt : Int)) (kk : V g k nL w cells slots Q tgt lv st) : V g k nL w cells slots Q pc lv st := fun H locs ls h1 h2 h3 => lv_goto C.1 C.2.1 dg ht (kk H locs ls h1 h2 h3)
theorem r_ifnull (C : Cx g k own cc nL rt d mc ms) {x : Nat} {off : Int} (dg : decode cc pc = .ok (.ifnull off, 3)) (e : pc + 3 = q) (kk : V g k nL w cells slots Q q lv st) : V g k nL w cells slots Q pc lv (.ref x :: st) := by
  subst e
  exact fun H locs ls h1 h2 h3 => lv_ifnull C.1 C.2.1 dg (kk H locs ls h1 h2 h3)
theorem r_ifnullN (C : Cx g k own cc nL rt d mc ms) {off : Int} {tgt : Nat} (dg : decode cc pc = .ok (.ifnull off, 3)) (ht : (pc : Int) + off = (tgt : Int)) (kk : V g k nL w cells slots Q tgt lv st) : V g k nL w cells slots Q pc lv (.null :: st) := fun H locs ls h1 h2 h3 => lv_ifnullN C.1 C.2.1 dg ht (kk H locs ls h1 h2 h3)
theorem r_ifnonnull (C : Cx g k own cc nL rt d mc ms) {x : Nat} {off : Int} {tgt : Nat} (dg : decode cc pc = .ok (.ifnonnull off, 3)) (ht : (pc : Int) + off = (tgt : Int)) (kk : V g k nL w cells slots Q tgt lv st) : V g k nL w cells slots Q pc lv (.ref x :: st) := fun H locs ls h1 h2 h3 => lv_ifnonnull C.1 C.2.1 dg ht (kk H locs ls h1 h2 h3)
theorem r_ifnonnullN (C : Cx g k own cc nL rt d mc ms) {off : Int} (dg : decode cc pc = .ok (.ifnonnull off, 3)) (e : pc + 3 = q) (kk : V g k nL w cells slots Q q lv st) : V g k nL w cells slots Q pc lv (.null :: st) := by
  subst e
  exact fun H locs ls h1 h2 h3 => lv_ifnonnullN C.1 C.2.1 dg (kk H locs ls h1 h2 h3)
theorem r_tableIn (C : Cx g k own cc nL rt d mc ms) {dflt lo hi : Int} {offs : Array Int} {len : Nat} {x : Int32} {off : Int} {tgt : Nat} (dg : decode cc pc = .ok (.tableswitch dflt lo hi offs, len)) (z1 : ¬ x.toInt < lo) (z2 : ¬ hi < x.toInt) (ho : offs[(x.toInt - lo).toNat]? = some off) (ht : (pc : Int) + off = (tgt : Int)) (kk : V g k nL w cells slots Q tgt lv st) : V g k nL w cells slots Q pc lv (.int x :: st) := fun H locs ls h1 h2 h3 => lv_tableIn C.1 C.2.1 dg z1 z2 ho ht (kk H locs ls h1 h2 h3)
theorem r_tableOut (C : Cx g k own cc nL rt d mc ms) {dflt lo hi : Int} {offs : Array Int} {len : Nat} {x : Int32} {tgt : Nat} (dg : decode cc pc = .ok (.tableswitch dflt lo hi offs, len)) (z : x.toInt < lo ∨ hi < x.toInt) (ht : (pc : Int) + dflt = (tgt : Int)) (kk : V g k nL w cells slots Q tgt lv st) : V g k nL w cells slots Q pc lv (.int x :: st) := fun H locs ls h1 h2 h3 => lv_tableOut C.1 C.2.1 dg z ht (kk H locs ls h1 h2 h3)
theorem r_lcmp0 (C : Cx g k own cc nL rt d mc ms) {x y : Int64} (dg : decode cc pc = .ok (.lcmp, 1))  (e : pc + 1 = q) (kk : V g k nL w cells slots Q q lv (.int (lg_cmp y x) :: st)) : V g k nL w cells slots Q pc lv (.long x :: .long y :: st) := by
  subst e
  exact fun H locs ls h1 h2 h3 => W.lcmp C.1 C.2.1 dg (kk H locs ls h1 h2 h3)
theorem lg_c_lt {x y : Int64} : lg_cmp x y < 0 ↔ x < y := by
  unfold lg_cmp
  by_cases h1 : y < x
  · have h2 : ¬ x < y := by simp only [Int64.lt_iff_toInt_lt] at *; omega
    simp [h1, h2]
  · by_cases h2 : x = y
    · subst h2; simp
    · have h3 : x < y := by simp only [Int64.lt_iff_toInt_lt, ← Int64.toInt_inj] at *; omega
      simp [h1, h2, h3]
theorem lg_c_eq {x y : Int64} : lg_cmp x y = 0 ↔ x = y := by
  unfold lg_cmp
  by_cases h1 : y < x
  · have h2 : ¬ x = y := by intro z; subst z; simp only [Int64.lt_iff_toInt_lt] at *; omega
    simp [h1, h2]
  · by_cases h2 : x = y
    · subst h2; simp
    · simp [h1, h2]
theorem lg_c_gt {x y : Int64} : 0 < lg_cmp x y ↔ y < x := by
  unfold lg_cmp
  by_cases h1 : y < x
  · simp [h1]
  · by_cases h2 : x = y
    · subst h2; simp
    · simp [h1, h2]
theorem lg_c_le {x y : Int64} : lg_cmp x y ≤ 0 ↔ x ≤ y := by
  rw [← Int32.not_lt, lg_c_gt, Int64.not_lt]
theorem lg_c_ge {x y : Int64} : 0 ≤ lg_cmp x y ↔ y ≤ x := by
  rw [← Int32.not_lt, lg_c_lt, Int64.not_lt]
theorem r_lcmp_eq (C : Cx g k own cc nL rt d mc ms) {off : Int} {tgt q2 : Nat} {x y : Int64} (dg : decode cc pc = .ok (.lcmp, 1)) (e : pc + 1 = q) (dg2 : decode cc q = .ok (.ifCond .eq off, 3)) (ht : (q : Int) + off = (tgt : Int)) (e2 : q + 3 = q2) (kt : y = x → V g k nL w cells slots Q tgt lv st) (kf : ¬ y = x → V g k nL w cells slots Q q2 lv st) : V g k nL w cells slots Q pc lv (.long x :: .long y :: st) := r_lcmp0 C dg e (r_if_eq C dg2 ht e2 (fun z => kt (lg_c_eq.mp z)) (fun z => kf (fun zz => z (lg_c_eq.mpr zz))))
theorem r_lcmp_ne (C : Cx g k own cc nL rt d mc ms) {off : Int} {tgt q2 : Nat} {x y : Int64} (dg : decode cc pc = .ok (.lcmp, 1)) (e : pc + 1 = q) (dg2 : decode cc q = .ok (.ifCond .ne off, 3)) (ht : (q : Int) + off = (tgt : Int)) (e2 : q + 3 = q2) (kt : ¬ y = x → V g k nL w cells slots Q tgt lv st) (kf : y = x → V g k nL w cells slots Q q2 lv st) : V g k nL w cells slots Q pc lv (.long x :: .long y :: st) := r_lcmp0 C dg e (r_if_ne C dg2 ht e2 (fun z => kt (fun zz => z (lg_c_eq.mpr zz))) (fun z => kf (lg_c_eq.mp z)))
theorem r_lcmp_lt (C : Cx g k own cc nL rt d mc ms) {off : Int} {tgt q2 : Nat} {x y : Int64} (dg : decode cc pc = .ok (.lcmp, 1)) (e : pc + 1 = q) (dg2 : decode cc q = .ok (.ifCond .lt off, 3)) (ht : (q : Int) + off = (tgt : Int)) (e2 : q + 3 = q2) (kt : y < x → V g k nL w cells slots Q tgt lv st) (kf : ¬ y < x → V g k nL w cells slots Q q2 lv st) : V g k nL w cells slots Q pc lv (.long x :: .long y :: st) := r_lcmp0 C dg e (r_if_lt C dg2 ht e2 (fun z => kt (lg_c_lt.mp z)) (fun z => kf (fun zz => z (lg_c_lt.mpr zz))))
theorem r_lcmp_ge (C : Cx g k own cc nL rt d mc ms) {off : Int} {tgt q2 : Nat} {x y : Int64} (dg : decode cc pc = .ok (.lcmp, 1)) (e : pc + 1 = q) (dg2 : decode cc q = .ok (.ifCond .ge off, 3)) (ht : (q : Int) + off = (tgt : Int)) (e2 : q + 3 = q2) (kt : x ≤ y → V g k nL w cells slots Q tgt lv st) (kf : ¬ x ≤ y → V g k nL w cells slots Q q2 lv st) : V g k nL w cells slots Q pc lv (.long x :: .long y :: st) := r_lcmp0 C dg e (r_if_ge C dg2 ht e2 (fun z => kt (lg_c_ge.mp z)) (fun z => kf (fun zz => z (lg_c_ge.mpr zz))))
theorem r_lcmp_gt (C : Cx g k own cc nL rt d mc ms) {off : Int} {tgt q2 : Nat} {x y : Int64} (dg : decode cc pc = .ok (.lcmp, 1)) (e : pc + 1 = q) (dg2 : decode cc q = .ok (.ifCond .gt off, 3)) (ht : (q : Int) + off = (tgt : Int)) (e2 : q + 3 = q2) (kt : x < y → V g k nL w cells slots Q tgt lv st) (kf : ¬ x < y → V g k nL w cells slots Q q2 lv st) : V g k nL w cells slots Q pc lv (.long x :: .long y :: st) := r_lcmp0 C dg e (r_if_gt C dg2 ht e2 (fun z => kt (lg_c_gt.mp z)) (fun z => kf (fun zz => z (lg_c_gt.mpr zz))))
theorem r_lcmp_le (C : Cx g k own cc nL rt d mc ms) {off : Int} {tgt q2 : Nat} {x y : Int64} (dg : decode cc pc = .ok (.lcmp, 1)) (e : pc + 1 = q) (dg2 : decode cc q = .ok (.ifCond .le off, 3)) (ht : (q : Int) + off = (tgt : Int)) (e2 : q + 3 = q2) (kt : y ≤ x → V g k nL w cells slots Q tgt lv st) (kf : ¬ y ≤ x → V g k nL w cells slots Q q2 lv st) : V g k nL w cells slots Q pc lv (.long x :: .long y :: st) := r_lcmp0 C dg e (r_if_le C dg2 ht e2 (fun z => kt (lg_c_le.mp z)) (fun z => kf (fun zz => z (lg_c_le.mpr zz))))
theorem r_ti {x y : Int32} (e : x = y) (kk : V g k nL w cells slots Q pc lv (.int y :: st)) : V g k nL w cells slots Q pc lv (.int x :: st) := e ▸ kk
theorem r_tl {x y : Int64} (e : x = y) (kk : V g k nL w cells slots Q pc lv (.long y :: st)) : V g k nL w cells slots Q pc lv (.long x :: st) := e ▸ kk
theorem r_tr {x y : Nat} (e : x = y) (kk : V g k nL w cells slots Q pc lv (.ref y :: st)) : V g k nL w cells slots Q pc lv (.ref x :: st) := e ▸ kk
theorem r_sub (js : List Nat) (hl : lv_pick lv js = lv') (kk : V g k nL w cells slots Q pc lv' st) : V g k nL w cells slots Q pc lv st := fun H locs ls h1 h2 h3 => kk H locs ls h1 h2 (lv_sub h3 js hl)
theorem r_w (e : w = w') (kk : V g k nL w' cells slots Q pc lv st) : V g k nL w cells slots Q pc lv st := e ▸ kk
theorem r_widen {c2 s2 : Nat} (z1 : cells ≤ c2) (z2 : slots ≤ s2) (kk : V g k nL w c2 s2 Q pc lv st) : V g k nL w cells slots Q pc lv st := fun H locs ls h1 h2 h3 => W.widen z1 z2 (kk H locs ls h1 h2 h3)
theorem r_get (C : Cx g k own cc nL rt d mc ms) {ci N t a : Nat} {CN ref : String} {T : u_T} {ty : Nat → FieldType} {fs : List Value} {v : Value} {ix : Nat}  (KK : KO ci CN T N ty) (ht : w t = some (a, ob ci fs)) (kf : Nat) (hk : kf < N) (hlink : Cond.fieldLink own ix ref (T kf).2.1 (T kf).2.2.1 ∈ GW) (href : ref = (T kf).1) (hv : fs[kf]? = some v) (dg : decode cc pc = .ok (.getfield ix, 3)) (e : pc + 3 = q) (kk : V g k nL w cells slots Q q lv (v :: st)) : V g k nL w cells slots Q pc lv (.ref a :: st) := by
  subst e href
  intro H locs ls ⟨ws, hP, hD, hw, hS⟩ h2 h3
  obtain ⟨i, hi⟩ := hw.1 _ _ _ ht
  exact va_get C.1 C.2.1 C.2.2.2.2.1 KK.2.1 C.2.2.2.1 C.2.2.2.2.2.2.1.1 hP i hi KK.1 kf hk (C.2.2.2.2.1 _ hlink) (fun _ h9 => h9) hv dg (kk H locs ls ⟨ws, hP, hD, hw, hS⟩ h2 h3)
theorem r_getS (C : Cx g k own cc nL rt d mc ms) {ci N t a : Nat} {CN ref : String} {T : u_T} {ty : Nat → FieldType} {fs : List Value} {v : Value} {ix : Nat}  (KK : KO ci CN T N ty) (ht : w t = some (a, ob ci fs)) (kf : Nat) (hk : kf < N) (hlink : Cond.fieldLink own ix ref (T kf).2.1 (T kf).2.2.1 ∈ GW) (href : Cond.sameField ref (T kf).1 (T kf).2.1 (T kf).2.2.1 ∈ GW) (hv : fs[kf]? = some v) (dg : decode cc pc = .ok (.getfield ix, 3)) (e : pc + 3 = q) (kk : V g k nL w cells slots Q q lv (v :: st)) : V g k nL w cells slots Q pc lv (.ref a :: st) := by
  subst e
  intro H locs ls ⟨ws, hP, hD, hw, hS⟩ h2 h3
  obtain ⟨i, hi⟩ := hw.1 _ _ _ ht
  exact va_get C.1 C.2.1 C.2.2.2.2.1 KK.2.1 C.2.2.2.1 C.2.2.2.2.2.2.1.1 hP i hi KK.1 kf hk (C.2.2.2.2.1 _ hlink) (fun x9 h9 => u_same (C.2.2.2.2.1 _ href) x9 h9) hv dg (kk H locs ls ⟨ws, hP, hD, hw, hS⟩ h2 h3)
theorem r_getN (C : Cx g k own cc nL rt d mc ms) {ci N t a : Nat} {CN ref : String} {T : u_T} {ty : Nat → FieldType} {fs : List Value} {v : Value} {ix : Nat} {host : String} (KK : KO ci CN T N ty) (ht : w t = some (a, ob ci fs)) (kf : Nat) (hk : kf < N) (hlink : Cond.fieldLinkNest own ix ref (T kf).2.1 (T kf).2.2.1 host ∈ NW) (href : ref = (T kf).1) (hv : fs[kf]? = some v) (dg : decode cc pc = .ok (.getfield ix, 3)) (e : pc + 3 = q) (kk : V g k nL w cells slots Q q lv (v :: st)) : V g k nL w cells slots Q pc lv (.ref a :: st) := by
  subst e href
  intro H locs ls ⟨ws, hP, hD, hw, hS⟩ h2 h3
  obtain ⟨i, hi⟩ := hw.1 _ _ _ ht
  exact va_getN C.1 C.2.1 C.2.2.2.2.1 KK.2.1 C.2.2.2.1 C.2.2.2.2.2.2.1.1 hP i hi KK.1 kf hk (va_Nw.use (nw_onT (nw_in hlink)) (C.2.2.2.2.2.2.1.2.2 _ hlink)) (fun _ h9 => h9) hv dg (kk H locs ls ⟨ws, hP, hD, hw, hS⟩ h2 h3)
theorem r_put (C : Cx g k own cc nL rt d mc ms) {ci N t a : Nat} {CN ref : String} {T : u_T} {ty : Nat → FieldType} {fs : List Value} {v : Value} {ix : Nat}  (KK : KO ci CN T N ty) (ht : w t = some (a, ob ci fs)) (kf : Nat) (hk : kf < N) (hlink : Cond.fieldLink own ix ref (T kf).2.1 (T kf).2.2.1 ∈ GW) (href : ref = (T kf).1) (hfin : (T kf).2.2.2 = false) (hn : narrow (ty kf) v = v) (hfit : fits (ty kf) v = true) (hl : kf < fs.length) (dg : decode cc pc = .ok (.putfield ix, 3)) (e : pc + 3 = q) (ew : wd_set w t a (ob ci (fs.set kf v)) = w') (kk : V g k nL w' cells slots Q q lv st) : V g k nL w cells slots Q pc lv (v :: .ref a :: st) := by
  subst e ew href
  intro H locs ls ⟨ws, hP, hD, hw, hS⟩ h2 h3
  obtain ⟨i, hi⟩ := hw.1 _ _ _ ht
  exact va_put C.1 C.2.1 C.2.2.2.2.1 KK.2.1 ty KK.2.2.1 KK.2.2.2 C.2.2.2.1 C.2.2.2.2.2.2.1.1 hP hD (S_locs hS h2) i hi KK.1 kf hk (C.2.2.2.2.1 _ hlink) (fun _ h9 => h9) hfin (KK.2.2.1 kf hk) hn hfit hl dg (fun H1 locs1 hP1 hD1 hS1 => kk H1 locs1 ls ⟨_, hP1, hD1, wl_set hw hD ht hi, S_nil hS1⟩ hS1.2.2 h3)
theorem r_putS (C : Cx g k own cc nL rt d mc ms) {ci N t a : Nat} {CN ref : String} {T : u_T} {ty : Nat → FieldType} {fs : List Value} {v : Value} {ix : Nat}  (KK : KO ci CN T N ty) (ht : w t = some (a, ob ci fs)) (kf : Nat) (hk : kf < N) (hlink : Cond.fieldLink own ix ref (T kf).2.1 (T kf).2.2.1 ∈ GW) (href : Cond.sameField ref (T kf).1 (T kf).2.1 (T kf).2.2.1 ∈ GW) (hfin : (T kf).2.2.2 = false) (hn : narrow (ty kf) v = v) (hfit : fits (ty kf) v = true) (hl : kf < fs.length) (dg : decode cc pc = .ok (.putfield ix, 3)) (e : pc + 3 = q) (ew : wd_set w t a (ob ci (fs.set kf v)) = w') (kk : V g k nL w' cells slots Q q lv st) : V g k nL w cells slots Q pc lv (v :: .ref a :: st) := by
  subst e ew
  intro H locs ls ⟨ws, hP, hD, hw, hS⟩ h2 h3
  obtain ⟨i, hi⟩ := hw.1 _ _ _ ht
  exact va_put C.1 C.2.1 C.2.2.2.2.1 KK.2.1 ty KK.2.2.1 KK.2.2.2 C.2.2.2.1 C.2.2.2.2.2.2.1.1 hP hD (S_locs hS h2) i hi KK.1 kf hk (C.2.2.2.2.1 _ hlink) (fun x9 h9 => u_same (C.2.2.2.2.1 _ href) x9 h9) hfin (KK.2.2.1 kf hk) hn hfit hl dg (fun H1 locs1 hP1 hD1 hS1 => kk H1 locs1 ls ⟨_, hP1, hD1, wl_set hw hD ht hi, S_nil hS1⟩ hS1.2.2 h3)
theorem r_putF (C : Cx g k own cc nL rt d mc ms) {ci N t a : Nat} {CN ref : String} {T : u_T} {ty : Nat → FieldType} {fs : List Value} {v : Value} {ix : Nat}  (KK : KO ci CN T N ty) (ht : w t = some (a, ob ci fs)) (kf : Nat) (hk : kf < N) (hlink : Cond.fieldLink own ix ref (T kf).2.1 (T kf).2.2.1 ∈ GW) (href : ref = (T kf).1) (hfin : (T kf).2.2.2 = true) (hin2 : (kxM k).name = "<init>") (hdecl : (T kf).1 = own) (hn : narrow (ty kf) v = v) (hfit : fits (ty kf) v = true) (hl : kf < fs.length) (dg : decode cc pc = .ok (.putfield ix, 3)) (e : pc + 3 = q) (ew : wd_set w t a (ob ci (fs.set kf v)) = w') (kk : V g k nL w' cells slots Q q lv st) : V g k nL w cells slots Q pc lv (v :: .ref a :: st) := by
  subst e ew href
  intro H locs ls ⟨ws, hP, hD, hw, hS⟩ h2 h3
  obtain ⟨i, hi⟩ := hw.1 _ _ _ ht
  exact va_putF C.1 C.2.1 C.2.2.2.2.1 KK.2.1 ty KK.2.2.1 KK.2.2.2 C.2.2.2.1 C.2.2.2.2.2.2.1.1 hP hD (S_locs hS h2) i hi KK.1 kf hk (C.2.2.2.2.1 _ hlink) (fun _ h9 => h9) hfin hin2 hdecl (KK.2.2.1 kf hk) hn hfit hl dg (fun H1 locs1 hP1 hD1 hS1 => kk H1 locs1 ls ⟨_, hP1, hD1, wl_set hw hD ht hi, S_nil hS1⟩ hS1.2.2 h3)
theorem r_putN (C : Cx g k own cc nL rt d mc ms) {ci N t a : Nat} {CN ref : String} {T : u_T} {ty : Nat → FieldType} {fs : List Value} {v : Value} {ix : Nat} {host : String} (KK : KO ci CN T N ty) (ht : w t = some (a, ob ci fs)) (kf : Nat) (hk : kf < N) (hlink : Cond.fieldLinkNest own ix ref (T kf).2.1 (T kf).2.2.1 host ∈ NW) (href : ref = (T kf).1) (hfin : (T kf).2.2.2 = false) (hn : narrow (ty kf) v = v) (hfit : fits (ty kf) v = true) (hl : kf < fs.length) (dg : decode cc pc = .ok (.putfield ix, 3)) (e : pc + 3 = q) (ew : wd_set w t a (ob ci (fs.set kf v)) = w') (kk : V g k nL w' cells slots Q q lv st) : V g k nL w cells slots Q pc lv (v :: .ref a :: st) := by
  subst e ew href
  intro H locs ls ⟨ws, hP, hD, hw, hS⟩ h2 h3
  obtain ⟨i, hi⟩ := hw.1 _ _ _ ht
  exact va_putN C.1 C.2.1 C.2.2.2.2.1 KK.2.1 ty KK.2.2.1 KK.2.2.2 C.2.2.2.1 C.2.2.2.2.2.2.1.1 hP hD (S_locs hS h2) i hi KK.1 kf hk (va_Nw.use (nw_onT (nw_in hlink)) (C.2.2.2.2.2.2.1.2.2 _ hlink)) (fun _ h9 => h9) hfin (KK.2.2.1 kf hk) hn hfit hl dg (fun H1 locs1 hP1 hD1 hS1 => kk H1 locs1 ls ⟨_, hP1, hD1, wl_set hw hD ht hi, S_nil hS1⟩ hS1.2.2 h3)
theorem r_iald (C : Cx g k own cc nL rt d mc ms) {t a n : Nat} {i : Int32} {f : Nat → Int32} (ht : w t = some (a, aI g n f)) (j : Nat) (hi : i = nI j) (hj : j < n) (hn : n < 2 ^ 31) (dg : decode cc pc = .ok (.iaload, 1)) (e : pc + 1 = q) (kk : V g k nL w cells slots Q q lv (.int (f j) :: st)) : V g k nL w cells slots Q pc lv (.int i :: .ref a :: st) := by
  subst e hi
  intro H locs ls ⟨ws, hP, hD, hw, hS⟩ h2 h3
  obtain ⟨i9, hi9⟩ := hw.1 _ _ _ ht
  refine va_iald C.1 C.2.1 C.2.2.2.2.2.2.1.1 hP i9 1 hi9 rfl (vp_in_nI hj hn) dg ?_
  rw [nI_clamp (Nat.lt_trans hj hn)]
  exact kk H locs ls ⟨ws, hP, hD, hw, hS⟩ h2 h3
theorem r_bald (C : Cx g k own cc nL rt d mc ms) {t a n : Nat} {i : Int32} {f : Nat → Int32} (ht : w t = some (a, aB g n f)) (j : Nat) (hi : i = nI j) (hj : j < n) (hn : n < 2 ^ 31) (dg : decode cc pc = .ok (.baload, 1)) (e : pc + 1 = q) (kk : V g k nL w cells slots Q q lv (.int (f j) :: st)) : V g k nL w cells slots Q pc lv (.int i :: .ref a :: st) := by
  subst e hi
  intro H locs ls ⟨ws, hP, hD, hw, hS⟩ h2 h3
  obtain ⟨i9, hi9⟩ := hw.1 _ _ _ ht
  refine va_bald C.1 C.2.1 C.2.2.2.2.2.2.1.1 hP i9 0 hi9 rfl (vp_in_nI hj hn) dg ?_
  rw [nI_clamp (Nat.lt_trans hj hn)]
  exact kk H locs ls ⟨ws, hP, hD, hw, hS⟩ h2 h3
theorem r_lald (C : Cx g k own cc nL rt d mc ms) {t a n : Nat} {i : Int32} {f : Nat → Int64} (ht : w t = some (a, aL g n f)) (j : Nat) (hi : i = nI j) (hj : j < n) (hn : n < 2 ^ 31) (dg : decode cc pc = .ok (.laload, 1)) (e : pc + 1 = q) (kk : V g k nL w cells slots Q q lv (.long (f j) :: st)) : V g k nL w cells slots Q pc lv (.int i :: .ref a :: st) := by
  subst e hi
  intro H locs ls ⟨ws, hP, hD, hw, hS⟩ h2 h3
  obtain ⟨i9, hi9⟩ := hw.1 _ _ _ ht
  refine va_lald C.1 C.2.1 C.2.2.2.2.2.2.1.1 hP i9 2 hi9 rfl (vp_in_nI hj hn) dg ?_
  rw [nI_clamp (Nat.lt_trans hj hn)]
  exact kk H locs ls ⟨ws, hP, hD, hw, hS⟩ h2 h3
theorem r_aald (C : Cx g k own cc nL rt d mc ms) {t a n : Nat} {i : Int32} {f : Nat → Option Nat} (ht : w t = some (a, aO g n f)) (j : Nat) (hi : i = nI j) (hj : j < n) (hn : n < 2 ^ 31) (dg : decode cc pc = .ok (.aaload, 1)) (e : pc + 1 = q) (kk : V g k nL w cells slots Q q lv (va_rf (f j) :: st)) : V g k nL w cells slots Q pc lv (.int i :: .ref a :: st) := by
  subst e hi
  intro H locs ls ⟨ws, hP, hD, hw, hS⟩ h2 h3
  obtain ⟨i9, hi9⟩ := hw.1 _ _ _ ht
  refine va_aldq C.1 C.2.1 C.2.2.2.2.2.2.1.1 hP i9 3 hi9 rfl (vp_in_nI hj hn) dg ?_
  rw [nI_clamp (Nat.lt_trans hj hn)]
  exact kk H locs ls ⟨ws, hP, hD, hw, hS⟩ h2 h3
theorem r_iast (C : Cx g k own cc nL rt d mc ms) {t a n : Nat} {i : Int32} {f : Nat → Int32} {x : Int32} (ht : w t = some (a, aI g n f)) (j : Nat) (hi : i = nI j) (hj : j < n) (hn : n < 2 ^ 31) (dg : decode cc pc = .ok (.iastore, 1)) (e : pc + 1 = q) (ew : wd_set w t a (aI g n (upd f j x)) = w') (kk : V g k nL w' cells slots Q q lv st) : V g k nL w cells slots Q pc lv (.int x :: .int i :: .ref a :: st) := by
  subst e hi ew
  intro H locs ls ⟨ws, hP, hD, hw, hS⟩ h2 h3
  obtain ⟨i9, hi9⟩ := hw.1 _ _ _ ht
  refine va_iast C.1 C.2.1 C.2.2.2.2.2.2.1.1 hP hD (S_locs hS h2) i9 1 hi9 rfl (vp_in_nI hj hn) dg ?_
  rw [nI_clamp (Nat.lt_trans hj hn)]
  exact fun H1 locs1 hP1 hD1 hS1 => kk H1 locs1 ls ⟨_, hP1, hD1, wl_set hw hD ht hi9, S_nil hS1⟩ hS1.2.2 h3
theorem r_bast (C : Cx g k own cc nL rt d mc ms) {t a n : Nat} {i : Int32} {f : Nat → Int32} {x : Int32} (ht : w t = some (a, aB g n f)) (j : Nat) (hi : i = nI j) (hj : j < n) (hn : n < 2 ^ 31) (dg : decode cc pc = .ok (.bastore, 1)) (e : pc + 1 = q) (ew : wd_set w t a (aB g n (upd f j x.toInt8.toInt32)) = w') (kk : V g k nL w' cells slots Q q lv st) : V g k nL w cells slots Q pc lv (.int x :: .int i :: .ref a :: st) := by
  subst e hi ew
  intro H locs ls ⟨ws, hP, hD, hw, hS⟩ h2 h3
  obtain ⟨i9, hi9⟩ := hw.1 _ _ _ ht
  refine va_bast C.1 C.2.1 C.2.2.2.2.2.2.1.1 hP hD (S_locs hS h2) i9 0 hi9 rfl (vp_in_nI hj hn) dg ?_
  rw [nI_clamp (Nat.lt_trans hj hn)]
  rw [vp_nar_byte]
  exact fun H1 locs1 hP1 hD1 hS1 => kk H1 locs1 ls ⟨_, hP1, hD1, wl_set hw hD ht hi9, S_nil hS1⟩ hS1.2.2 h3
theorem r_last (C : Cx g k own cc nL rt d mc ms) {t a n : Nat} {i : Int32} {f : Nat → Int64} {x : Int64} (ht : w t = some (a, aL g n f)) (j : Nat) (hi : i = nI j) (hj : j < n) (hn : n < 2 ^ 31) (dg : decode cc pc = .ok (.lastore, 1)) (e : pc + 1 = q) (ew : wd_set w t a (aL g n (vp_updL f j x)) = w') (kk : V g k nL w' cells slots Q q lv st) : V g k nL w cells slots Q pc lv (.long x :: .int i :: .ref a :: st) := by
  subst e hi ew
  intro H locs ls ⟨ws, hP, hD, hw, hS⟩ h2 h3
  obtain ⟨i9, hi9⟩ := hw.1 _ _ _ ht
  refine va_last C.1 C.2.1 C.2.2.2.2.2.2.1.1 hP hD (S_locs hS h2) i9 2 hi9 rfl (vp_in_nI hj hn) dg ?_
  rw [nI_clamp (Nat.lt_trans hj hn)]
  exact fun H1 locs1 hP1 hD1 hS1 => kk H1 locs1 ls ⟨_, hP1, hD1, wl_set hw hD ht hi9, S_nil hS1⟩ hS1.2.2 h3
theorem r_ilen (C : Cx g k own cc nL rt d mc ms) {t a n : Nat} {f : Nat → Int32} (ht : w t = some (a, aI g n f)) (dg : decode cc pc = .ok (.arraylength, 1)) (e : pc + 1 = q) (kk : V g k nL w cells slots Q q lv (.int (nI n) :: st)) : V g k nL w cells slots Q pc lv (.ref a :: st) := by
  subst e
  intro H locs ls ⟨ws, hP, hD, hw, hS⟩ h2 h3
  obtain ⟨i9, hi9⟩ := hw.1 _ _ _ ht
  exact va_alen C.1 C.2.1 C.2.2.2.2.2.2.1.1 hP i9 1 hi9 (ty := .int) rfl rfl dg (kk H locs ls ⟨ws, hP, hD, hw, hS⟩ h2 h3)
theorem r_blen (C : Cx g k own cc nL rt d mc ms) {t a n : Nat} {f : Nat → Int32} (ht : w t = some (a, aB g n f)) (dg : decode cc pc = .ok (.arraylength, 1)) (e : pc + 1 = q) (kk : V g k nL w cells slots Q q lv (.int (nI n) :: st)) : V g k nL w cells slots Q pc lv (.ref a :: st) := by
  subst e
  intro H locs ls ⟨ws, hP, hD, hw, hS⟩ h2 h3
  obtain ⟨i9, hi9⟩ := hw.1 _ _ _ ht
  exact va_alen C.1 C.2.1 C.2.2.2.2.2.2.1.1 hP i9 0 hi9 (ty := .byte) rfl rfl dg (kk H locs ls ⟨ws, hP, hD, hw, hS⟩ h2 h3)
theorem r_llen (C : Cx g k own cc nL rt d mc ms) {t a n : Nat} {f : Nat → Int64} (ht : w t = some (a, aL g n f)) (dg : decode cc pc = .ok (.arraylength, 1)) (e : pc + 1 = q) (kk : V g k nL w cells slots Q q lv (.int (nI n) :: st)) : V g k nL w cells slots Q pc lv (.ref a :: st) := by
  subst e
  intro H locs ls ⟨ws, hP, hD, hw, hS⟩ h2 h3
  obtain ⟨i9, hi9⟩ := hw.1 _ _ _ ht
  exact va_alen C.1 C.2.1 C.2.2.2.2.2.2.1.1 hP i9 2 hi9 (ty := .long) rfl rfl dg (kk H locs ls ⟨ws, hP, hD, hw, hS⟩ h2 h3)
theorem r_alen (C : Cx g k own cc nL rt d mc ms) {t a n : Nat} {f : Nat → Option Nat} (ht : w t = some (a, aO g n f)) (dg : decode cc pc = .ok (.arraylength, 1)) (e : pc + 1 = q) (kk : V g k nL w cells slots Q q lv (.int (nI n) :: st)) : V g k nL w cells slots Q pc lv (.ref a :: st) := by
  subst e
  intro H locs ls ⟨ws, hP, hD, hw, hS⟩ h2 h3
  obtain ⟨i9, hi9⟩ := hw.1 _ _ _ ht
  exact va_alen C.1 C.2.1 C.2.2.2.2.2.2.1.1 hP i9 3 hi9 (ty := .object "java/lang/Object") rfl rfl dg (kk H locs ls ⟨ws, hP, hD, hw, hS⟩ h2 h3)
theorem r_copyb (C : Cx g k own cc nL rt d mc ms) {t0 t1 a0 a1 n0 n1 ix : Nat} {f f1 : Nat → Int32} {sp dp n : Int32} (ht0 : w t0 = some (a0, aB g n0 f)) (ht1 : w t1 = some (a1, aB g n1 f1)) (hlink : Cond.methodLink own ix arraycopyName ∈ GW) (hnat : Cond.native arraycopyName ∈ GW) (hstat : Cond.static arraycopyName ∈ GW) (hini : Cond.initialized "java/lang/System" ∈ GW) (js jd jn : Nat) (e1 : sp = nI js) (e2 : dp = nI jd) (e3 : n = nI jn) (z1 : js + jn ≤ n0) (z2 : jd + jn ≤ n1) (z3 : n0 < 2 ^ 31) (z4 : n1 < 2 ^ 31) (hfit : ∀ i, i < jn → fits .byte (.int (f (js + i))) = true) (hfr : 1 ≤ d) (hst : (st.map fun v => v.category).sum ≤ 8) (dg : decode cc pc = .ok (.invokestatic ix, 3)) (e : pc + 3 = q) (ew : wd_set w t1 a1 (aB g n1 (va_cpy f f1 js jd jn)) = w') (kk : V g k nL w' cells slots Q q lv st) : V g k nL w cells slots Q pc lv (.int n :: .int dp :: .ref a1 :: .int sp :: .ref a0 :: st) := by
  subst e ew e1 e2 e3
  intro H locs ls ⟨ws, hP, hD, hw, hS⟩ h2 h3
  obtain ⟨i0, hi0⟩ := hw.1 _ _ _ ht0
  obtain ⟨i1, hi1⟩ := hw.1 _ _ _ ht1
  have c1 : (nI js).toNatClampNeg = js := nI_clamp (by omega)
  have c2 : (nI jd).toNatClampNeg = jd := nI_clamp (by omega)
  have c3 : (nI jn).toNatClampNeg = jn := nI_clamp (by omega)
  have hl9 : 40 * d ≤ (kxR k).locals := C.2.2.2.2.2.2.2.2.2.1
  have hwd : nativeFrameWords "java/lang/System" "arraycopy" 5 ≤ 20 := by decide
  refine va_copyi C.1 C.2.1 (C.2.2.1.trans h3.1.symm) C.2.2.2.1 (C.2.2.2.2.1 _ hlink) (C.2.2.2.2.1 _ hnat) (C.2.2.2.2.1 _ hstat) (C.2.2.2.2.1 _ hini) C.2.2.2.2.2.2.1.1 hP hD (S_locs hS h2) i0 i1 0 0 hi0 hi1 rfl rfl rfl (nI_pos (by omega)) (nI_pos (by omega)) (nI_pos (by omega)) (by rw [c1, c3]; exact z1) (by rw [c2, c3]; exact z2) (by rw [c1, c3]; exact hfit) (Nat.le_trans hfr C.2.2.2.2.2.2.2.2.1) (by omega) dg ?_
  rw [c1, c2, c3]
  exact fun H1 locs1 hP1 hD1 hS1 => kk H1 locs1 ls ⟨_, hP1, hD1, wl_set hw hD ht1 hi1, S_nil hS1⟩ hS1.2.2 h3
theorem r_copyi (C : Cx g k own cc nL rt d mc ms) {t0 t1 a0 a1 n0 n1 ix : Nat} {f f1 : Nat → Int32} {sp dp n : Int32} (ht0 : w t0 = some (a0, aI g n0 f)) (ht1 : w t1 = some (a1, aI g n1 f1)) (hlink : Cond.methodLink own ix arraycopyName ∈ GW) (hnat : Cond.native arraycopyName ∈ GW) (hstat : Cond.static arraycopyName ∈ GW) (hini : Cond.initialized "java/lang/System" ∈ GW) (js jd jn : Nat) (e1 : sp = nI js) (e2 : dp = nI jd) (e3 : n = nI jn) (z1 : js + jn ≤ n0) (z2 : jd + jn ≤ n1) (z3 : n0 < 2 ^ 31) (z4 : n1 < 2 ^ 31)  (hfr : 1 ≤ d) (hst : (st.map fun v => v.category).sum ≤ 8) (dg : decode cc pc = .ok (.invokestatic ix, 3)) (e : pc + 3 = q) (ew : wd_set w t1 a1 (aI g n1 (va_cpy f f1 js jd jn)) = w') (kk : V g k nL w' cells slots Q q lv st) : V g k nL w cells slots Q pc lv (.int n :: .int dp :: .ref a1 :: .int sp :: .ref a0 :: st) := by
  subst e ew e1 e2 e3
  intro H locs ls ⟨ws, hP, hD, hw, hS⟩ h2 h3
  obtain ⟨i0, hi0⟩ := hw.1 _ _ _ ht0
  obtain ⟨i1, hi1⟩ := hw.1 _ _ _ ht1
  have c1 : (nI js).toNatClampNeg = js := nI_clamp (by omega)
  have c2 : (nI jd).toNatClampNeg = jd := nI_clamp (by omega)
  have c3 : (nI jn).toNatClampNeg = jn := nI_clamp (by omega)
  have hl9 : 40 * d ≤ (kxR k).locals := C.2.2.2.2.2.2.2.2.2.1
  have hwd : nativeFrameWords "java/lang/System" "arraycopy" 5 ≤ 20 := by decide
  refine va_copyi C.1 C.2.1 (C.2.2.1.trans h3.1.symm) C.2.2.2.1 (C.2.2.2.2.1 _ hlink) (C.2.2.2.2.1 _ hnat) (C.2.2.2.2.1 _ hstat) (C.2.2.2.2.1 _ hini) C.2.2.2.2.2.2.1.1 hP hD (S_locs hS h2) i0 i1 1 1 hi0 hi1 rfl rfl rfl (nI_pos (by omega)) (nI_pos (by omega)) (nI_pos (by omega)) (by rw [c1, c3]; exact z1) (by rw [c2, c3]; exact z2) (fun _ _ => rfl) (Nat.le_trans hfr C.2.2.2.2.2.2.2.2.1) (by omega) dg ?_
  rw [c1, c2, c3]
  exact fun H1 locs1 hP1 hD1 hS1 => kk H1 locs1 ls ⟨_, hP1, hD1, wl_set hw hD ht1 hi1, S_nil hS1⟩ hS1.2.2 h3
theorem r_new (C : Cx g k own cc nL rt d mc ms) {ci N ix : Nat} {CN : String} {T : u_T} {ty : Nat → FieldType} (KK : KO ci CN T N ty) (hcl : Cond.classLink own ix CN ∈ GW) (hinst : Cond.instantiable CN N ∈ GW) (hini : Cond.initialized CN ∈ GW) (t : Nat) (fs : List Value) (hfs : ∀ j, j < N → defaultValue (ty j) = vp_V fs j) (z1 : cells + 1 ≤ mc) (z2 : slots + N ≤ ms) (dg : decode cc pc = .ok (.new ix, 3)) (e : pc + 3 = q) (kk : ∀ a : Nat, V g k nL (wd_set w t a (ob ci fs)) (cells + 1) (slots + N) Q q lv (.ref a :: st)) : V g k nL w cells slots Q pc lv st := by
  subst e
  intro H locs ls ⟨ws, hP, hD, hw, hS⟩ h2 h3
  exact va_new C.1 C.2.1 C.2.2.2.2.1 KK.2.1 ty KK.2.2.1 C.2.2.2.1 (C.2.2.2.2.1 _ hcl) (C.2.2.2.2.1 _ hinst) (C.2.2.2.2.1 _ hini) C.2.2.2.2.2.2.1.1 hP hD (S_locs hS h2) (fun q h => h) KK.1 hfs (Nat.le_trans z1 C.2.2.2.2.2.2.2.2.2.2.1) (Nat.le_trans z2 C.2.2.2.2.2.2.2.2.2.2.2) dg (fun a H1 hP1 hD1 hS1 => kk a H1 locs ls ⟨_, hP1, hD1, wl_new hw hD1, S_nil hS1⟩ h2 h3)
theorem r_newb (C : Cx g k own cc nL rt d mc ms) {n : Int32} (N' : Nat) (hn : n = nI N') (hN : N' < 16777216) (harr : Cond.arrayClass (.byte) ∈ GW) (t : Nat) (z1 : cells + 1 ≤ mc) (z2 : slots + N' ≤ ms) (dg : decode cc pc = .ok (.newarray .byte, 2)) (e : pc + 2 = q) (kk : ∀ a : Nat, V g k nL (wd_set w t a (aB g N' (fun _ => 0))) (cells + 1) (slots + N') Q q lv (.ref a :: st)) : V g k nL w cells slots Q pc lv (.int n :: st) := by
  subst e hn
  intro H locs ls ⟨ws, hP, hD, hw, hS⟩ h2 h3
  refine va_newa (atype := .byte) (ty := .byte) (a0 := (N', .inl (fun _ => 0))) C.1 C.2.1 (C.2.2.2.2.1 _ harr) rfl C.2.2.2.2.2.2.1.1 hP hD (S_locs hS h2) (fun q h => h) (fun _ => rfl) (nI_pos (by omega)) (nI_clamp (by omega)) (by show N' * 1 ≤ 536870912; omega) (Nat.le_trans z1 C.2.2.2.2.2.2.2.2.2.2.1) (Nat.le_trans z2 C.2.2.2.2.2.2.2.2.2.2.2) dg (fun a cA H1 hK1 hP1 hD1 hS1 => ?_)
  have e1 : (kxs k).vm.findClass ("[" ++ (FieldType.byte).toString) = some cA := (hK1.2 4 (cA, .byte) rfl).2
  have e2 : (kxs k).vm.findClass ("[" ++ (FieldType.byte).toString) = some (gB g) := (C.2.2.2.2.2.2.1.1.2 0 _ rfl).2
  have e3 : cA = gB g := Option.some.inj (e1.symm.trans e2)
  subst e3
  exact kk a H1 locs ls ⟨_, hP1, hD1, wl_new hw hD1, S_nil hS1⟩ h2 h3
theorem r_newi (C : Cx g k own cc nL rt d mc ms) {n : Int32} (N' : Nat) (hn : n = nI N') (hN : N' < 16777216) (harr : Cond.arrayClass (.int) ∈ GW) (t : Nat) (z1 : cells + 1 ≤ mc) (z2 : slots + N' ≤ ms) (dg : decode cc pc = .ok (.newarray .int, 2)) (e : pc + 2 = q) (kk : ∀ a : Nat, V g k nL (wd_set w t a (aI g N' (fun _ => 0))) (cells + 1) (slots + N') Q q lv (.ref a :: st)) : V g k nL w cells slots Q pc lv (.int n :: st) := by
  subst e hn
  intro H locs ls ⟨ws, hP, hD, hw, hS⟩ h2 h3
  refine va_newa (atype := .int) (ty := .int) (a0 := (N', .inl (fun _ => 0))) C.1 C.2.1 (C.2.2.2.2.1 _ harr) rfl C.2.2.2.2.2.2.1.1 hP hD (S_locs hS h2) (fun q h => h) (fun _ => rfl) (nI_pos (by omega)) (nI_clamp (by omega)) (by show N' * 4 ≤ 536870912; omega) (Nat.le_trans z1 C.2.2.2.2.2.2.2.2.2.2.1) (Nat.le_trans z2 C.2.2.2.2.2.2.2.2.2.2.2) dg (fun a cA H1 hK1 hP1 hD1 hS1 => ?_)
  have e1 : (kxs k).vm.findClass ("[" ++ (FieldType.int).toString) = some cA := (hK1.2 4 (cA, .int) rfl).2
  have e2 : (kxs k).vm.findClass ("[" ++ (FieldType.int).toString) = some (gI g) := (C.2.2.2.2.2.2.1.1.2 1 _ rfl).2
  have e3 : cA = gI g := Option.some.inj (e1.symm.trans e2)
  subst e3
  exact kk a H1 locs ls ⟨_, hP1, hD1, wl_new hw hD1, S_nil hS1⟩ h2 h3
theorem r_newl (C : Cx g k own cc nL rt d mc ms) {n : Int32} (N' : Nat) (hn : n = nI N') (hN : N' < 16777216) (harr : Cond.arrayClass (.long) ∈ GW) (t : Nat) (z1 : cells + 1 ≤ mc) (z2 : slots + N' ≤ ms) (dg : decode cc pc = .ok (.newarray .long, 2)) (e : pc + 2 = q) (kk : ∀ a : Nat, V g k nL (wd_set w t a (aL g N' (fun _ => 0))) (cells + 1) (slots + N') Q q lv (.ref a :: st)) : V g k nL w cells slots Q pc lv (.int n :: st) := by
  subst e hn
  intro H locs ls ⟨ws, hP, hD, hw, hS⟩ h2 h3
  refine va_newa (atype := .long) (ty := .long) (a0 := (N', .inr (.inl (fun _ => 0)))) C.1 C.2.1 (C.2.2.2.2.1 _ harr) rfl C.2.2.2.2.2.2.1.1 hP hD (S_locs hS h2) (fun q h => h) (fun _ => rfl) (nI_pos (by omega)) (nI_clamp (by omega)) (by show N' * 8 ≤ 536870912; omega) (Nat.le_trans z1 C.2.2.2.2.2.2.2.2.2.2.1) (Nat.le_trans z2 C.2.2.2.2.2.2.2.2.2.2.2) dg (fun a cA H1 hK1 hP1 hD1 hS1 => ?_)
  have e1 : (kxs k).vm.findClass ("[" ++ (FieldType.long).toString) = some cA := (hK1.2 4 (cA, .long) rfl).2
  have e2 : (kxs k).vm.findClass ("[" ++ (FieldType.long).toString) = some (gL g) := (C.2.2.2.2.2.2.1.1.2 2 _ rfl).2
  have e3 : cA = gL g := Option.some.inj (e1.symm.trans e2)
  subst e3
  exact kk a H1 locs ls ⟨_, hP1, hD1, wl_new hw hD1, S_nil hS1⟩ h2 h3
theorem r_newa (C : Cx g k own cc nL rt d mc ms) {n : Int32} {ix : Nat} (N' : Nat) (hn : n = nI N') (hN : N' < 16777216) (hcl : Cond.classLink own ix "java/lang/Object" ∈ GW) (t : Nat) (z1 : cells + 1 ≤ mc) (z2 : slots + N' ≤ ms) (dg : decode cc pc = .ok (.anewarray ix, 3)) (e : pc + 3 = q) (kk : ∀ a : Nat, V g k nL (wd_set w t a (aO g N' (fun _ => none))) (cells + 1) (slots + N') Q q lv (.ref a :: st)) : V g k nL w cells slots Q pc lv (.int n :: st) := by
  subst e hn
  intro H locs ls ⟨ws, hP, hD, hw, hS⟩ h2 h3
  refine va_newq C.1 C.2.1 C.2.2.2.1 (C.2.2.2.2.1 _ hcl) (C.2.2.2.2.2.2.1.2.1.2.2.2.2.2.2.2.2.2.2.2.2.2.2.2.2.1) C.2.2.2.2.2.2.1.1 hP hD (S_locs hS h2) (fun q h => h) (nI_pos (by omega)) (nI_clamp (by omega)) (by omega) (Nat.le_trans z1 C.2.2.2.2.2.2.2.2.2.2.1) (Nat.le_trans z2 C.2.2.2.2.2.2.2.2.2.2.2) dg (fun a cA H1 hK1 hP1 hD1 hS1 => ?_)
  have e1 := (hK1.2 4 (cA, .object "java/lang/Object") rfl).2
  have e2 := (C.2.2.2.2.2.2.1.1.2 3 _ rfl).2
  obtain ⟨-, -, -, -, -, f1⟩ := e1
  obtain ⟨-, -, -, -, -, f2⟩ := e2
  have e3 : cA = gO g := Option.some.inj (f1.symm.trans f2)
  subst e3
  exact kk a H1 locs ls ⟨_, hP1, hD1, wl_new hw hD1, S_nil hS1⟩ h2 h3
theorem r_gets (C : Cx g k own cc nL rt d mc ms) {CN nm dd ref : String} {ix : Nat} {v : Value} (Z : va_Z CN nm dd v (cx_A g) (kxs k) (gH g)) (hlink : Cond.fieldLink own ix ref nm dd ∈ GW) (href : ref = CN) (dg : decode cc pc = .ok (.getstatic ix, 3)) (e : pc + 3 = q) (kk : V g k nL w cells slots Q q lv (v :: st)) : V g k nL w cells slots Q pc lv st := by
  subst e href
  intro H locs ls ⟨ws, hP, hD, hw, hS⟩ h2 h3
  obtain ⟨cf, kf, fi, f, a, cell, g1, g2, g3, g4, g5, g6, g7, g8⟩ := Z
  exact W.gets C.1 C.2.1 C.2.2.2.1 (C.2.2.2.2.1 _ hlink) g1 g2 g3 g4 (by rw [hS.2.1 a (Array.getElem?_eq_some_iff.mp g5).1 g8]; exact g5) (fun e => by rw [e] at g6; cases g6) g7 rfl dg (kk H locs ls ⟨ws, hP, hD, hw, hS⟩ h2 h3)
theorem r_siald (C : Cx g k own cc nL rt d mc ms) {t n : Nat} {i : Int32} {f : Nat → Int32} (Z : va_T .int t n (fun j => .int (f j)) (cx_A g) (kxs k) (gH g)) (j : Nat) (hi : i = nI j) (hj : j < n) (hn : n < 2 ^ 31) (dg : decode cc pc = .ok (.iaload, 1)) (e : pc + 1 = q) (kk : V g k nL w cells slots Q q lv (.int (f j) :: st)) : V g k nL w cells slots Q pc lv (.int i :: .ref t :: st) := by
  subst e hi
  intro H locs ls ⟨ws, hP, hD, hw, hS⟩ h2 h3
  obtain ⟨cell, g1, g2, g3, g4, g5, g6, g7⟩ := Z
  have hc := nI_clamp (n := j) (Nat.lt_trans hj hn)
  exact W.iald (v := .int (f j)) C.1 C.2.1 (by rw [hS.2.1 t (Array.getElem?_eq_some_iff.mp g1).1 g7]; exact g1) g2 g3 (fun z => by
    rcases z with z | z
    · exact nI_pos (Nat.lt_trans hj hn) z
    · rw [hc] at z; omega) (by rw [hc]; exact g6 j hj) rfl rfl dg (kk H locs ls ⟨ws, hP, hD, hw, hS⟩ h2 h3)
theorem r_sbald (C : Cx g k own cc nL rt d mc ms) {t n : Nat} {i : Int32} {f : Nat → Int32} (Z : va_T .byte t n (fun j => .int (f j)) (cx_A g) (kxs k) (gH g)) (j : Nat) (hi : i = nI j) (hj : j < n) (hn : n < 2 ^ 31) (dg : decode cc pc = .ok (.baload, 1)) (e : pc + 1 = q) (kk : V g k nL w cells slots Q q lv (.int (f j) :: st)) : V g k nL w cells slots Q pc lv (.int i :: .ref t :: st) := by
  subst e hi
  intro H locs ls ⟨ws, hP, hD, hw, hS⟩ h2 h3
  obtain ⟨cell, g1, g2, g3, g4, g5, g6, g7⟩ := Z
  have hc := nI_clamp (n := j) (Nat.lt_trans hj hn)
  exact W.bald (v := .int (f j)) C.1 C.2.1 (by rw [hS.2.1 t (Array.getElem?_eq_some_iff.mp g1).1 g7]; exact g1) g2 g3 (fun z => by
    rcases z with z | z
    · exact nI_pos (Nat.lt_trans hj hn) z
    · rw [hc] at z; omega) (by rw [hc]; exact g6 j hj) rfl rfl dg (kk H locs ls ⟨ws, hP, hD, hw, hS⟩ h2 h3)
theorem r_slen (C : Cx g k own cc nL rt d mc ms) {t n : Nat} {ty : FieldType} {f : Nat → Value} (Z : va_T ty t n f (cx_A g) (kxs k) (gH g)) (dg : decode cc pc = .ok (.arraylength, 1)) (e : pc + 1 = q) (kk : V g k nL w cells slots Q q lv (.int (nI n) :: st)) : V g k nL w cells slots Q pc lv (.ref t :: st) := by
  subst e
  intro H locs ls ⟨ws, hP, hD, hw, hS⟩ h2 h3
  obtain ⟨cell, g1, g2, g3, g4, g5, g6, g7⟩ := Z
  exact W.alen C.1 C.2.1 (by rw [hS.2.1 t (Array.getElem?_eq_some_iff.mp g1).1 g7]; exact g1) g2 g5 rfl rfl dg (kk H locs ls ⟨ws, hP, hD, hw, hS⟩ h2 h3)
theorem r_cast (C : Cx g k own cc nL rt d mc ms) {ci N t a ix : Nat} {CN nm : String} {T : u_T} {ty : Nat → FieldType} {fs : List Value} (KK : KO ci CN T N ty) (ht : w t = some (a, ob ci fs)) (hlink : Cond.classLink own ix nm ∈ GW) (hc : Cond.castable CN nm ∈ NW) (dg : decode cc pc = .ok (.checkcast ix, 3)) (e : pc + 3 = q) (kk : V g k nL w cells slots Q q lv (.ref a :: st)) : V g k nL w cells slots Q pc lv (.ref a :: st) := by
  subst e
  intro H locs ls ⟨ws, hP, hD, hw, hS⟩ h2 h3
  obtain ⟨i9, hi9⟩ := hw.1 _ _ _ ht
  exact va_castY C.1 C.2.1 C.2.2.2.1 (C.2.2.2.2.1 _ hlink) (C.2.2.2.2.2.2.1.2.2 _ hc) (va_recv (q0 := i9) C.2.2.2.2.2.2.1.1 hP KK.1 hi9) dg (kk H locs ls ⟨ws, hP, hD, hw, hS⟩ h2 h3)
theorem r_castN (C : Cx g k own cc nL rt d mc ms) {ix : Nat} (dg : decode cc pc = .ok (.checkcast ix, 3)) (e : pc + 3 = q) (kk : V g k nL w cells slots Q q lv (.null :: st)) : V g k nL w cells slots Q pc lv (.null :: st) := by
  subst e
  exact fun H locs ls h1 h2 h3 => lv_castN C.1 C.2.1 dg (kk H locs ls h1 h2 h3)
end RW
/-- the room of a method of depth d -/
abbrev rmd (d mc ms : Nat) : Room := { frames := d, cells := mc, slots := ms, locals := 40 * d }
def Pre9 (g : cx_G) (w : wd_T) (av : List Value) : Array Value → State → Prop := fun a U => a = av.toArray ∧ hp_ok g w U.heap ∧ kn_ok g U
def Post9 (g : cx_G) (Φ : Option Value → wd_T → Prop) : Array Value → State → Outcome → State → Prop := fun _ _ o t => ∃ (v : Option Value) (w' : wd_T), o = .returned v ∧ Φ v w' ∧ hp_ok g w' t.heap
/-- a method's contract over a world -/
def Mt (l : Launch) (g : cx_G) (y : MethodName) (cc : ByteArray) (nL : Nat) (rt : Option FieldType) (d mc ms : Nat) (w : wd_T) (av : List Value) (Φ : Option Value → wd_T → Prop) : Prop :=
  Met l y (Cond.code y cc nL rt :: GW) (rmd d mc ms) (Pre9 g w av) (Post9 g Φ) mc ms (cx_A g)
theorem Pre9_blind {g : cx_G} {w : wd_T} {av : List Value} : FrameBlind (Pre9 g w av) := fun a U g9 mk q => ⟨q.1, q.2.1, kn_ok.same (u := U) (U := U.calling g9 mk a) rfl q.2.2⟩
def kQ (g : cx_G) (k : kx_T) (Φ : Option Value → wd_T → Prop) (mc ms : Nat) : State → Prop := MQ (kxb k) (Post9 g Φ) (kxa k) (kxs k) mc ms (cx_A g)
/-- a contract out of a walk from the entry -/
theorem mt_of {l : Launch} {g : cx_G} {y : MethodName} {cc : ByteArray} {nL : Nat} {rt : Option FieldType} {d mc ms : Nat} {w : wd_T} {av : List Value} {Φ : Option Value → wd_T → Prop} (own : String) (nm : String) (ho : y.cls = own) (hnm : y.name = nm) (hy : plainName y.cls = true) (hn : (lg_sl av).length ≤ nL) (lv : List (Nat × Value)) (hlv : lv_args 0 av = lv)
    (body : ∀ k : kx_T, kxl k = l → Cx g k own cc nL rt d mc ms → (kxM k).name = nm → V g k nL w 0 0 (kQ g k Φ mc ms) 0 lv []) : Mt l g y cc nL rt d mc ms w av Φ := by
  refine Met.ofW (cc := cc) (maxL := nL) (ret := rt) hy rfl ?_
  intro p e s m args below meth c s₁ B hml hv
  obtain ⟨rfl, hh, hkn⟩ := hv
  have hts := atoms_spec (ws := Cond.code y cc nL rt :: GW) B.pre
  have hname := name_of_methodNamed B.named B.method
  subst ho hnm
  have C : Cx g (p, l, e, rmd d mc ms, s, m, av.toArray, below, meth, c) y.cls cc nL rt d mc ms := ⟨B.exec, B.bytes, hml, findClass_of_methodNamed B.named, fun w hw => hts w (List.mem_cons_of_mem _ hw), B.notSynchronized, hkn, B.returns, Nat.le_refl _, Nat.le_refl _, Nat.le_refl _, Nat.le_refl _⟩
  have hl := lv_entry av (n := nL) hn
  rw [lg_entry_eq]
  rw [hlv] at hl
  exact body (p, l, e, rmd d mc ms, s, m, av.toArray, below, meth, c) rfl C hname.1 s.heap [] _ hh (fun _ q => nomatch q) hl
section RC
variable {g : cx_G} {k : kx_T} {own : String} {cc : ByteArray} {nL : Nat} {rt : Option FieldType} {d mc ms : Nat} {w w' : wd_T} {cells slots : Nat} {Q : State → Prop} {pc q : Nat} {lv lv' : List (Nat × Value)} {st : List Value}
variable {Φ : Option Value → wd_T → Prop}
theorem gw_in {y : MethodName} {bytes : ByteArray} {n : Nat} {rt : Option FieldType} (h : Cond.code y bytes n rt ∈ GW) : GoodIn GW (Cond.code y bytes n rt :: GW) := fun w hw => by
  rcases List.mem_cons.mp hw with rfl | hw
  · exact ⟨h, gw_good h⟩
  · exact ⟨hw, gw_good hw⟩
theorem go_run {H : Heap} {locs : List Loc} {ls : Array Slot} {mc2 ms2 : Nat} {rest st0 : List Value} {a : Array Value}
    (hr : va_Run (kxp k) (kxl k) (kxe k) (kxR k) (kxs k) (kxm k) (kxa k) (kxb k) (kxM k) (kxc k) H locs cells slots mc2 ms2 (F0 (kxm k) pc ls st0) rest (Post9 g Φ a) (cx_A g)) (h2 : ∀ z ∈ locs, cx_A g z.base) (h3 : lv_has ls nL lv)
    (kk : ∀ (v : Option Value) (w' : wd_T), Φ v w' → V g k nL w' (cells + mc2) (slots + ms2) Q (pc + 3) lv (v.toList ++ rest)) : W (kxp k) (kxl k) (kxe k) (kxR k) (kxs k) (kxm k) (kxa k) (kxb k) (kxM k) (kxc k) H locs cells slots Q (F0 (kxm k) pc ls st0) := by
  intro T hT X
  obtain ⟨v, st₀, t, T', L, h0, X', hL, e1, e2, ⟨v', w', hv, hp, hb⟩, st⟩ := hr T hT X
  cases hv
  obtain ⟨t2, a1, b1⟩ := kk _ w' hp t.heap (locs ++ L) ls hb (fun z hz => by
      rcases List.mem_append.mp hz with h | h
      · exact h2 z h
      · exact hL z h) h3 T' e1 X'
  exact ⟨t2, st t2 a1, b1⟩

theorem r_callV (C : Cx g k own cc nL rt d mc ms) {y : MethodName} {bytes : ByteArray} {n2 d2 mc2 ms2 ix : Nat} {rt2 : Option FieldType} {As : List Value} {ci N t a : Nat} {CN : String} {T : u_T} {ty : Nat → FieldType} {fs : List Value} (KK : KO ci CN T N ty) (ht : w t = some (a, ob ci fs)) (hM : Mt (kxl k) g y bytes n2 rt2 d2 mc2 ms2 w (.ref a :: As) Φ) (hcode : Cond.code y bytes n2 rt2 ∈ GW) (hlink : Cond.methodLink own ix y ∈ GW) (hin : Cond.instanceMethod y ∈ GW) (hsel : Cond.selects CN y y ∈ GW) (hini : Cond.initialized CN ∈ GW) (hcn : y.cls = CN) (hmh : y.cls ≠ "java/lang/invoke/MethodHandle" ∧ y.cls ≠ "java/lang/invoke/VarHandle") (hpar : (parseMethodDescriptor y.desc).map (fun d => d.parameters.length) = some As.length) (hd : d2 + 1 ≤ d) (hm : n2 ≤ 21) (z1 : cells + mc2 ≤ mc) (z2 : slots + ms2 ≤ ms) (hst : (st.map fun v => v.category).sum ≤ 8) {st0 : List Value} (hst0 : st0 = As.reverse ++ .ref a :: st) (dg : decode cc pc = .ok (.invokevirtual ix, 3)) (e : pc + 3 = q)
    (kk : ∀ (v : Option Value) (w' : wd_T), Φ v w' → V g k nL w' (cells + mc2) (slots + ms2) Q q lv (v.toList ++ st)) : V g k nL w cells slots Q pc lv st0 := by
  subst e hst0
  intro H locs ls ⟨ws, hP, hD, hw, hS⟩ h2 h3
  obtain ⟨i9, hi9⟩ := hw.1 _ _ _ ht
  have hts := C.2.2.2.2.1
  have cb : CallB (kxR k) (kxs k) (kxa k) own ix y bytes n2 rt2 (Cond.code y bytes n2 rt2 :: GW) (rmd d2 mc2 ms2) mc2 ms2 As.length := callB_of As.length hts (gw_in hcode) rfl rfl rfl (hts _ (by rw [hcn]; exact hini)) (hts _ hlink) ⟨hmh.1, hmh.2, hpar⟩ ⟨Nat.le_trans hd C.2.2.2.2.2.2.2.2.1, by have := C.2.2.2.2.2.2.2.2.2.1; show 8 + (n2 + 11) + 40 * d2 ≤ _; omega⟩
  exact go_run (va_runV (As := As) (rest := st) ⟨C.1, C.2.1, C.2.2.1, C.2.2.2.1, C.2.2.2.2.1⟩ hM ⟨cb, hts _ hin, hts _ hsel⟩ ⟨Pre9_blind, va_recv (q0 := i9) C.2.2.2.2.2.2.1.1 hP KK.1 hi9, fun U hU hW => ⟨rfl, by rw [hU]; exact ⟨ws, hP, hD, hw, hS⟩, C.2.2.2.2.2.2.1.warm hW⟩⟩ rfl rfl h3.1 rfl (lv_room hst) dg ⟨Nat.le_trans z1 C.2.2.2.2.2.2.2.2.2.2.1, Nat.le_trans z2 C.2.2.2.2.2.2.2.2.2.2.2⟩) h2 h3 kk
theorem r_callS (C : Cx g k own cc nL rt d mc ms) {y : MethodName} {bytes : ByteArray} {n2 d2 mc2 ms2 ix : Nat} {rt2 : Option FieldType} {As : List Value} (hM : Mt (kxl k) g y bytes n2 rt2 d2 mc2 ms2 w As Φ) (hcode : Cond.code y bytes n2 rt2 ∈ GW) (hlink : Cond.methodLink own ix y ∈ GW) (hin : Cond.static y ∈ GW) (hini : Cond.initialized y.cls ∈ GW) (hmh : y.cls ≠ "java/lang/invoke/MethodHandle" ∧ y.cls ≠ "java/lang/invoke/VarHandle") (hpar : (parseMethodDescriptor y.desc).map (fun d => d.parameters.length) = some As.length) (hd : d2 + 1 ≤ d) (hm : n2 ≤ 21) (z1 : cells + mc2 ≤ mc) (z2 : slots + ms2 ≤ ms) (hst : (st.map fun v => v.category).sum ≤ 8) {st0 : List Value} (hst0 : st0 = As.reverse ++ st) (dg : decode cc pc = .ok (.invokestatic ix, 3)) (e : pc + 3 = q)
    (kk : ∀ (v : Option Value) (w' : wd_T), Φ v w' → V g k nL w' (cells + mc2) (slots + ms2) Q q lv (v.toList ++ st)) : V g k nL w cells slots Q pc lv st0 := by
  subst e hst0
  intro H locs ls ⟨ws, hP, hD, hw, hS⟩ h2 h3
  have hts := C.2.2.2.2.1
  have cb : CallB (kxR k) (kxs k) (kxa k) own ix y bytes n2 rt2 (Cond.code y bytes n2 rt2 :: GW) (rmd d2 mc2 ms2) mc2 ms2 As.length := callB_of As.length hts (gw_in hcode) rfl rfl rfl (hts _ hini) (hts _ hlink) ⟨hmh.1, hmh.2, hpar⟩ ⟨Nat.le_trans hd C.2.2.2.2.2.2.2.2.1, by have := C.2.2.2.2.2.2.2.2.2.1; show 8 + (n2 + 11) + 40 * d2 ≤ _; omega⟩
  exact go_run (va_runS (As := As) (rest := st) ⟨C.1, C.2.1, C.2.2.1, C.2.2.2.1, C.2.2.2.2.1⟩ hM ⟨cb, hts _ hin⟩ ⟨Pre9_blind, fun U hU hW => ⟨rfl, by rw [hU]; exact ⟨ws, hP, hD, hw, hS⟩, C.2.2.2.2.2.2.1.warm hW⟩⟩ rfl rfl h3.1 rfl (lv_room hst) dg ⟨Nat.le_trans z1 C.2.2.2.2.2.2.2.2.2.2.1, Nat.le_trans z2 C.2.2.2.2.2.2.2.2.2.2.2⟩) h2 h3 kk
theorem r_callI (C : Cx g k own cc nL rt d mc ms) {y : MethodName} {bytes : ByteArray} {n2 d2 mc2 ms2 ix : Nat} {As : List Value} {a : Nat} (hM : Mt (kxl k) g y bytes n2 none d2 mc2 ms2 w (.ref a :: As) Φ) (hcode : Cond.code y bytes n2 none ∈ GW) (hlink : Cond.methodLink own ix y ∈ GW) (hin : Cond.instanceMethod y ∈ GW) (hini : Cond.initialized y.cls ∈ GW) (hnm : y.name = "<init>") (hmh : y.cls ≠ "java/lang/invoke/MethodHandle" ∧ y.cls ≠ "java/lang/invoke/VarHandle") (hpar : (parseMethodDescriptor y.desc).map (fun d => d.parameters.length) = some As.length) (hd : d2 + 1 ≤ d) (hm : n2 ≤ 21) (z1 : cells + mc2 ≤ mc) (z2 : slots + ms2 ≤ ms) (hst : (st.map fun v => v.category).sum ≤ 8) {st0 : List Value} (hst0 : st0 = As.reverse ++ .ref a :: st) (dg : decode cc pc = .ok (.invokespecial ix, 3)) (e : pc + 3 = q)
    (kk : ∀ (v : Option Value) (w' : wd_T), Φ v w' → V g k nL w' (cells + mc2) (slots + ms2) Q q lv (v.toList ++ st)) : V g k nL w cells slots Q pc lv st0 := by
  subst e hst0
  intro H locs ls ⟨ws, hP, hD, hw, hS⟩ h2 h3
  have hts := C.2.2.2.2.1
  have cb : CallB (kxR k) (kxs k) (kxa k) own ix y bytes n2 none (Cond.code y bytes n2 none :: GW) (rmd d2 mc2 ms2) mc2 ms2 As.length := callB_of As.length hts (gw_in hcode) rfl rfl rfl (hts _ hini) (hts _ hlink) ⟨hmh.1, hmh.2, hpar⟩ ⟨Nat.le_trans hd C.2.2.2.2.2.2.2.2.1, by have := C.2.2.2.2.2.2.2.2.2.1; show 8 + (n2 + 11) + 40 * d2 ≤ _; omega⟩
  exact go_run (va_runI (As := As) (rest := st) ⟨C.1, C.2.1, C.2.2.1, C.2.2.2.1, C.2.2.2.2.1⟩ hM ⟨cb, hnm, hts _ hin⟩ ⟨Pre9_blind, fun U hU hW => ⟨rfl, by rw [hU]; exact ⟨ws, hP, hD, hw, hS⟩, C.2.2.2.2.2.2.1.warm hW⟩⟩ rfl rfl h3.1 rfl (lv_room hst) dg ⟨Nat.le_trans z1 C.2.2.2.2.2.2.2.2.2.2.1, Nat.le_trans z2 C.2.2.2.2.2.2.2.2.2.2.2⟩) h2 h3 kk
theorem r_callIN (C : Cx g k own cc nL rt d mc ms) {y : MethodName} {bytes : ByteArray} {n2 d2 mc2 ms2 ix : Nat} {As : List Value} {a : Nat} {host : String} (hM : Mt (kxl k) g y bytes n2 none d2 mc2 ms2 w (.ref a :: As) Φ) (hcode : Cond.code y bytes n2 none ∈ GW) (hlink : Cond.methodLinkNest own ix y host ∈ NW) (hin : Cond.instanceMethod y ∈ GW) (hini : Cond.initialized y.cls ∈ GW) (hnm : y.name = "<init>") (hmh : y.cls ≠ "java/lang/invoke/MethodHandle" ∧ y.cls ≠ "java/lang/invoke/VarHandle") (hpar : (parseMethodDescriptor y.desc).map (fun d => d.parameters.length) = some As.length) (hd : d2 + 1 ≤ d) (hm : n2 ≤ 21) (z1 : cells + mc2 ≤ mc) (z2 : slots + ms2 ≤ ms) (hst : (st.map fun v => v.category).sum ≤ 8) {st0 : List Value} (hst0 : st0 = As.reverse ++ .ref a :: st) (dg : decode cc pc = .ok (.invokespecial ix, 3)) (e : pc + 3 = q)
    (kk : ∀ (v : Option Value) (w' : wd_T), Φ v w' → V g k nL w' (cells + mc2) (slots + ms2) Q q lv (v.toList ++ st)) : V g k nL w cells slots Q pc lv st0 := by
  subst e hst0
  intro H locs ls ⟨ws, hP, hD, hw, hS⟩ h2 h3
  have hts := C.2.2.2.2.1
  have cb : va_CN (kxR k) (kxs k) (kxa k) own ix y host bytes n2 none (Cond.code y bytes n2 none :: GW) (rmd d2 mc2 ms2) mc2 ms2 As.length := va_cnB As.length hts (gw_in hcode) rfl rfl rfl (C.2.2.2.2.2.2.1.2.2 _ hlink) (hts _ hini) ⟨hmh.1, hmh.2, hpar⟩ ⟨Nat.le_trans hd C.2.2.2.2.2.2.2.2.1, by have := C.2.2.2.2.2.2.2.2.2.1; show 8 + (n2 + 11) + 40 * d2 ≤ _; omega⟩
  exact go_run (va_runIN (As := As) (rest := st) ⟨C.1, C.2.1, C.2.2.1, C.2.2.2.1, C.2.2.2.2.1⟩ hM ⟨cb, hnm, hts _ hin⟩ ⟨Pre9_blind, fun U hU hW => ⟨rfl, by rw [hU]; exact ⟨ws, hP, hD, hw, hS⟩, C.2.2.2.2.2.2.1.warm hW⟩⟩ rfl rfl h3.1 rfl (lv_room hst) dg ⟨Nat.le_trans z1 C.2.2.2.2.2.2.2.2.2.2.1, Nat.le_trans z2 C.2.2.2.2.2.2.2.2.2.2.2⟩) h2 h3 kk
theorem r_objI (C : Cx g k own cc nL rt d mc ms) {ix a : Nat} (hlink : Cond.methodLink own ix Lib.objectInit ∈ GW) (hin : Cond.instanceMethod Lib.objectInit ∈ GW) (hcode : Cond.code Lib.objectInit ⟨#[0xb1]⟩ 1 none ∈ GW) (hd : 1 ≤ d) (hst : (st.map fun v => v.category).sum ≤ 8) (dg : decode cc pc = .ok (.invokespecial ix, 3)) (e : pc + 3 = q) (kk : V g k nL w cells slots Q q lv st) : V g k nL w cells slots Q pc lv (.ref a :: st) := by
  subst e
  intro H locs ls ⟨ws, hP, hD, hw, hS⟩ h2 h3
  have hts := C.2.2.2.2.1
  have hl9 : 40 * d ≤ (kxR k).locals := C.2.2.2.2.2.2.2.2.2.1
  refine W.objInit C.1 C.2.1 C.2.2.2.1 (hts _ hlink) (hts _ hin) (hts _ hcode) rfl (h3.1.trans C.2.2.1.symm) rfl dg (Nat.le_trans hd C.2.2.2.2.2.2.2.2.1) ?_ ?_
  · show 2 * 0 + _ + 12 ≤ _
    omega
  · exact kk H locs ls ⟨ws, hP, hD, hw, hS⟩ h2 h3
theorem r_iret (C : Cx g k own cc nL rt d mc ms) (hr : rt = some .int) {v : Int32} (z1 : cells ≤ mc) (z2 : slots ≤ ms) (dg : decode cc pc = .ok (.ireturn, 1)) (h : Φ (some (.int v)) w) : V g k nL w cells slots (kQ g k Φ mc ms) pc lv [.int v] := by
  subst hr
  exact fun H locs ls h1 h2 h3 => W.widen z1 z2 (W.iret C.1 C.2.1 C.2.2.2.2.2.2.2.1 (fun t ht _ => ⟨_, w, rfl, h, by rw [ht]; exact h1⟩) h2 dg C.2.2.2.2.2.1)
theorem r_zret (C : Cx g k own cc nL rt d mc ms) {ty : FieldType} (hr : rt = some ty) {v : Int32} (hn : narrow ty (.int v) = .int v) (z1 : cells ≤ mc) (z2 : slots ≤ ms) (dg : decode cc pc = .ok (.ireturn, 1)) (h : Φ (some (.int v)) w) : V g k nL w cells slots (kQ g k Φ mc ms) pc lv [.int v] := by
  subst hr
  exact fun H locs ls h1 h2 h3 => W.widen z1 z2 (W.zret C.1 C.2.1 C.2.2.2.2.2.2.2.1 hn (fun t ht _ => ⟨_, w, rfl, h, by rw [ht]; exact h1⟩) h2 dg C.2.2.2.2.2.1)
theorem r_lret (C : Cx g k own cc nL rt d mc ms) (hr : rt = some .long) {v : Int64} (z1 : cells ≤ mc) (z2 : slots ≤ ms) (dg : decode cc pc = .ok (.lreturn, 1)) (h : Φ (some (.long v)) w) : V g k nL w cells slots (kQ g k Φ mc ms) pc lv [.long v] := by
  subst hr
  exact fun H locs ls h1 h2 h3 => W.widen z1 z2 (W.lret C.1 C.2.1 C.2.2.2.2.2.2.2.1 (fun t ht _ => ⟨_, w, rfl, h, by rw [ht]; exact h1⟩) h2 dg C.2.2.2.2.2.1)
theorem r_vret (C : Cx g k own cc nL rt d mc ms) (hr : rt = none) (z1 : cells ≤ mc) (z2 : slots ≤ ms) (dg : decode cc pc = .ok (.return_, 1)) (h : Φ none w) : V g k nL w cells slots (kQ g k Φ mc ms) pc lv [] := by
  subst hr
  exact fun H locs ls h1 h2 h3 => W.widen z1 z2 (W.vret C.1 C.2.1 C.2.2.2.2.2.2.2.1 (fun t ht _ => ⟨_, w, rfl, h, by rw [ht]; exact h1⟩) h2 dg C.2.2.2.2.2.1)
theorem r_aret (C : Cx g k own cc nL rt d mc ms) {ty : FieldType} (hr : rt = some ty) (hrt : (∃ n, ty = .object n) ∨ ∃ t, ty = .array t) {v : Value} (hv : v = .null ∨ ∃ a, v = .ref a) (z1 : cells ≤ mc) (z2 : slots ≤ ms) (dg : decode cc pc = .ok (.areturn, 1)) (h : Φ (some v) w) : V g k nL w cells slots (kQ g k Φ mc ms) pc lv [v] := by
  subst hr
  exact fun H locs ls h1 h2 h3 => W.widen z1 z2 (W.aret C.1 C.2.1 C.2.2.2.2.2.2.2.1 hrt hv (fun t ht _ => ⟨_, w, rfl, h, by rw [ht]; exact h1⟩) h2 dg C.2.2.2.2.2.1)
end RC
