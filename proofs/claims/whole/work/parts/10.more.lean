/-! further rows and small facts -/
theorem wd_pp {X Y : wd_T} {t u a b : Nat} {e f : va_E} (h : wd_set X t a e = wd_set Y t a e) (hne : u ≠ t) : wd_set (wd_set X u b f) t a e = wd_set (wd_set Y u b f) t a e := by
  rw [wd_sw hne, h, ← wd_sw hne]
theorem i8_idem (x : Int32) : x.toInt8.toInt32.toInt8.toInt32 = x.toInt8.toInt32 := (vp_nar_byte x.toInt8.toInt32).symm.trans (pk_vb x)
theorem pk_dec {n : Nat} (h : 0 < n) : nI n + Int32.ofInt (-1) = nI (n - 1) := by
  obtain ⟨m, rfl⟩ : ∃ m, n = m + 1 := ⟨n - 1, by omega⟩
  exact pk_m1 m
/-- what lies outside a span of tags stays -/
def Fr (w w' : wd_T) (lo hi : Nat) : Prop := ∀ t, t < lo ∨ hi ≤ t → w' t = w t
theorem Fr.rfl' {w : wd_T} {lo hi : Nat} : Fr w w lo hi := fun _ _ => rfl
theorem Fr.trans {a b c : wd_T} {lo hi : Nat} (h : Fr a b lo hi) (h2 : Fr b c lo hi) : Fr a c lo hi := fun t ht => (h2 t ht).trans (h t ht)
theorem Fr.mono {a b : wd_T} {lo hi lo2 hi2 : Nat} (h : Fr a b lo hi) (h1 : lo2 ≤ lo) (h2 : hi ≤ hi2) : Fr a b lo2 hi2 := fun t ht => h t (by omega)
theorem Fr.set {a : wd_T} {lo hi t x : Nat} {e : va_E} (h1 : lo ≤ t) (h2 : t < hi) : Fr a (wd_set a t x e) lo hi := fun u hu => wd_ne (by omega)
section RW2
variable {g : cx_G} {k : kx_T} {own : String} {cc : ByteArray} {nL : Nat} {rt : Option FieldType} {d mc ms : Nat} {w w' : wd_T} {cells slots : Nat} {Q : State → Prop} {pc q : Nat} {lv lv' : List (Nat × Value)} {st : List Value}
theorem r_bast8 (C : Cx g k own cc nL rt d mc ms) {t a n : Nat} {i : Int32} {f : Nat → Int32} {x : Int32} (ht : w t = some (a, aB g n f)) (j : Nat) (hi : i = nI j) (hj : j < n) (hn : n < 2 ^ 31) (dg : decode cc pc = .ok (.bastore, 1)) (e : pc + 1 = q) (ew : wd_set w t a (aB g n (upd f j x.toInt8.toInt32)) = w') (kk : V g k nL w' cells slots Q q lv st) : V g k nL w cells slots Q pc lv (.int x.toInt8.toInt32 :: .int i :: .ref a :: st) :=
  r_bast C ht j hi hj hn dg e (by rw [i8_idem]; exact ew) kk
/-- System.arraycopy out of a static row of ints -/
theorem r_copySI (C : Cx g k own cc nL rt d mc ms) {t1 b0 a1 n0 n1 ix : Nat} {f f1 : Nat → Int32} {sp dp n : Int32} (Z : va_T .int b0 n0 (fun j => .int (f j)) (cx_A g) (kxs k) (gH g)) (ht1 : w t1 = some (a1, aI g n1 f1)) (hlink : Cond.methodLink own ix arraycopyName ∈ GW) (hnat : Cond.native arraycopyName ∈ GW) (hstat : Cond.static arraycopyName ∈ GW) (hini : Cond.initialized "java/lang/System" ∈ GW) (js jd jn : Nat) (e1 : sp = nI js) (e2 : dp = nI jd) (e3 : n = nI jn) (z1 : js + jn ≤ n0) (z2 : jd + jn ≤ n1) (z3 : n0 < 2 ^ 31) (z4 : n1 < 2 ^ 31) (hfr : 1 ≤ d) (hst : (st.map fun v => v.category).sum ≤ 8) (dg : decode cc pc = .ok (.invokestatic ix, 3)) (e : pc + 3 = q) (ew : wd_set w t1 a1 (aI g n1 (va_cpy f f1 js jd jn)) = w') (kk : V g k nL w' cells slots Q q lv st) : V g k nL w cells slots Q pc lv (.int n :: .int dp :: .ref a1 :: .int sp :: .ref b0 :: st) := by
  subst e ew e1 e2 e3
  intro H locs ls ⟨ws, hP, hD, hw, hS⟩ h2 h3
  obtain ⟨i1, hi1⟩ := hw.1 _ _ _ ht1
  have hts := C.2.2.2.2.1
  have c1 : (nI js).toNatClampNeg = js := nI_clamp (by omega)
  have c2 : (nI jd).toNatClampNeg = jd := nI_clamp (by omega)
  have c3 : (nI jn).toNatClampNeg = jn := nI_clamp (by omega)
  have i1' : (nI js).toInt = (js : Int) := nI_toInt (by omega)
  have i2' : (nI jd).toInt = (jd : Int) := nI_toInt (by omega)
  have i3' : (nI jn).toInt = (jn : Int) := nI_toInt (by omega)
  have hl9 : 40 * d ≤ (kxR k).locals := C.2.2.2.2.2.2.2.2.2.1
  have hwd : nativeFrameWords "java/lang/System" "arraycopy" 5 ≤ 20 := by decide
  obtain ⟨scr, g1, g2, g3, g4, -, g5, g6⟩ := Z
  have hc0 : H[b0]? = some scr := by rw [hS.2.1 b0 (Array.getElem?_eq_some_iff.mp g1).1 g6]; exact g1
  have hc1 : H[a1]? = some (vp_cell (gI g) (n1, .inl f1)) := hP i1 _ hi1
  obtain ⟨hs6, k0, hk0, cm0, hkk0⟩ := g2
  obtain ⟨-, k1, hk1, cm1, hkk1⟩ := (C.2.2.2.2.2.2.1.1.2 1 _ rfl).1 n1 (fun j => .int (f1 j))
  intro T hT X
  obtain ⟨vm', X', step⟩ := X.arraycopy C.1 C.2.2.2.1 (hts _ hlink) (hts _ hnat) (hts _ hstat) (hts _ hini) (src := b0) (dst := a1) (cs := scr) (cd := vp_cell (gI g) (n1, .inl f1)) (srcPos := nI js) (destPos := nI jd) (n := nI jn) (by rw [hT]; exact hc0) (by rw [hT]; exact hc1)
    hs6 (fun _ h => by cases h) g3 (fun h => by cases h) hk0 hk1 hkk0 hkk1 (by simp [refKind]) (nI_pos (by omega)) (nI_pos (by omega)) (nI_pos (by omega))
    (by rw [i1', i3']; omega)
    (by rw [i2', i3']; show ¬ _ > ((arrV (gI g) n1 (fun j => .int (f1 j))).slots.size : Int); rw [arrV_size]; omega)
    (fun vm₁ _ i hi => by
      rw [c1]
      rw [c3] at hi
      have e : scr.slots.getD (js + i) .null = .int (f (js + i)) := by
        rw [Array.getD_eq_getD_getElem?, g5 _ (by omega)]
        rfl
      rw [e]
      exact ⟨rfl, trivial⟩)
    (g := F0 (kxm k) pc ls (.int (nI jn) :: .int (nI jd) :: .ref a1 :: .int (nI js) :: .ref b0 :: st)) rfl (h3.1.trans C.2.2.1.symm) (rest := st) rfl (by rw [C.2.1]; exact dg) (Nat.le_trans hfr C.2.2.2.2.2.2.2.2.1) (by show 2 * 0 + _ + _ ≤ _; omega)
  have e1 : copied scr (vp_cell (gI g) (n1, .inl f1)) (nI js) (nI jd) (nI jn) = vp_cell (gI g) (n1, .inl (va_cpy f f1 (nI js).toNatClampNeg (nI jd).toNatClampNeg (nI jn).toNatClampNeg)) := va_copiedX (fun z => .int z) scr (gI g) f f1 g5 (by rw [c1, c3]; exact z1)
  rw [c1, c2, c3] at e1
  rw [e1] at X' step
  have hl : a1 < H.size := (Array.getElem?_eq_some_iff.mp hc1).1
  have hheap : ((T.setVm vm').setCell a1 (vp_cell (gI g) (n1, .inl (va_cpy f f1 js jd jn)))).heap = H.setIfInBounds a1 (vp_cell (gI g) (n1, .inl (va_cpy f f1 js jd jn))) := by rw [← hT]; rfl
  have oq : ∀ q : Nat, q ≠ a1 → (H.setIfInBounds a1 (vp_cell (gI g) (n1, .inl (va_cpy f f1 js jd jn))))[q]? = H[q]? := fun q hq => by simp [Array.getElem?_setIfInBounds, Ne.symm hq]
  obtain ⟨t, a9, b9⟩ := kk _ _ ls ⟨ws.set i1 (a1, aI g n1 (va_cpy f f1 js jd jn)), hP.set hD hi1 (show (H.setIfInBounds a1 _)[a1]? = some _ by simp [Array.getElem?_setIfInBounds, hl]) oq, hD.set hi1, wl_set hw hD ht1 hi1, ⟨by simp; exact hS.1, fun q g1 g2 => by
      rw [oq q (fun e => g2 (by rw [e]; exact hD.2 i1 _ hi1))]
      exact hS.2.1 q g1 g2, fun q hq => nomatch hq⟩⟩ (fun q hq => by
      rcases List.mem_append.mp hq with h | h
      · exact h2 q h
      · obtain ⟨z, -, hz⟩ := List.mem_map.mp h
        rw [← hz]
        exact hD.2 i1 _ hi1) h3 _ hheap X'
  exact ⟨t, step t a9, b9⟩
end RW2
/-! the compression, as both classes reckon it -/
def rot9 (x p : Int32) : Int32 := (x.toUInt32 >>> (p.toUInt32 &&& Int32.toUInt32 31)).toInt32 ||| (x <<< ((nI 32 - p) &&& 31))
def ush9 (x p : Int32) : Int32 := (x.toUInt32 >>> (p.toUInt32 &&& Int32.toUInt32 31)).toInt32
def ear9 (x : Int32) : Int32 := (rot9 x (nI 7) ^^^ rot9 x (nI 18)) ^^^ ush9 x (nI 3)
def lat9 (x : Int32) : Int32 := (rot9 x (nI 17) ^^^ rot9 x (nI 19)) ^^^ ush9 x (nI 10)
def u9 (kc wt : Int32) (S : Nat → Int32) : Int32 := (((S 7 + ((rot9 (S 4) (nI 6) ^^^ rot9 (S 4) (nI 11)) ^^^ rot9 (S 4) (nI 25))) + ((S 4 &&& S 5) ^^^ ((S 4 ^^^ (-1)) &&& S 6))) + kc) + wt
def v9 (S : Nat → Int32) : Int32 := ((rot9 (S 0) (nI 2) ^^^ rot9 (S 0) (nI 13)) ^^^ rot9 (S 0) (nI 22)) + (((S 0 &&& S 1) ^^^ (S 0 &&& S 2)) ^^^ (S 1 &&& S 2))
def rd1 (kc wt : Int32) (S : Nat → Int32) : Nat → Int32 := fun j => if j = 0 then u9 kc wt S + v9 S else if j = 4 then S 3 + u9 kc wt S else S (j - 1)
def rds (X : Nat → Int32) : Nat → (Nat → Int32) → Nat → Int32
  | 0, S => S
  | t + 1, S => rd1 (kCu t) (X t) (rds X t S)
theorem rds_congr {X Y : Nat → Int32} (S : Nat → Int32) : ∀ t, (∀ j, j < t → X j = Y j) → rds X t S = rds Y t S
  | 0, _ => rfl
  | t + 1, h => by rw [rds, rds, rds_congr S t (fun j hj => h j (by omega)), h t (by omega)]
/-- only places 0 .. 7 of a state matter -/
theorem rds_st {X S T : Nat → Int32} (h : ∀ j, j < 8 → S j = T j) : ∀ t j, j < 8 → rds X t S j = rds X t T j
  | 0, j, hj => h j hj
  | t + 1, j, hj => by
    have ih := rds_st (X := X) h t
    rw [rds, rds]
    unfold rd1 u9 v9
    rw [ih 0 (by omega), ih 1 (by omega), ih 2 (by omega), ih 3 (by omega), ih 4 (by omega), ih 5 (by omega), ih 6 (by omega), ih 7 (by omega), ih (j - 1) (by omega)]
def wb9 (x y : Int32) : Int32 := (x <<< (nI 8 &&& 31)) ||| (y &&& nI 255)
def rdW (M : Nat → Int32) (p : Nat) : Int32 := wb9 (wb9 (wb9 (wb9 (nI 0) (M p)) (M (p + 1))) (M (p + 2))) (M (p + 3))
/-- the words of 64 bytes from b on -/
def sc9 (M : Nat → Int32) (b : Nat) (t : Nat) : Int32 := if t < 16 then rdW M (b + 4 * t) else if h : 16 ≤ t then ((lat9 (sc9 M b (t - 2)) + sc9 M b (t - 7)) + ear9 (sc9 M b (t - 15))) + sc9 M b (t - 16) else 0
termination_by t
decreasing_by all_goals omega
theorem sc9_lo {M : Nat → Int32} {b t : Nat} (h : t < 16) : sc9 M b t = rdW M (b + 4 * t) := by
  rw [sc9, if_pos h]
theorem sc9_hi {M : Nat → Int32} {b t : Nat} (h : 16 ≤ t) : sc9 M b t = ((lat9 (sc9 M b (t - 2)) + sc9 M b (t - 7)) + ear9 (sc9 M b (t - 15))) + sc9 M b (t - 16) := by
  rw [sc9, if_neg (by omega), dif_pos h]
theorem sc9_congr {M N : Nat → Int32} {b : Nat} (h : ∀ j, b ≤ j → j < b + 64 → M j &&& nI 255 = N j &&& nI 255) (t : Nat) (ht : t < 64) : sc9 M b t = sc9 N b t := by
  induction t using Nat.strongRecOn with
  | ind t ih =>
    by_cases h1 : t < 16
    · rw [sc9_lo h1, sc9_lo h1]
      unfold rdW wb9
      rw [h (b + 4 * t) (by omega) (by omega), h (b + 4 * t + 1) (by omega) (by omega), h (b + 4 * t + 2) (by omega) (by omega), h (b + 4 * t + 3) (by omega) (by omega)]
    · rw [sc9_hi (M := M) (t := t) (by omega), sc9_hi (M := N) (t := t) (by omega), ih (t - 2) (by omega) (by omega), ih (t - 7) (by omega) (by omega), ih (t - 15) (by omega) (by omega), ih (t - 16) (by omega) (by omega)]
/-- the state behind 64 bytes -/
def cmp9 (M : Nat → Int32) (b : Nat) (S : Nat → Int32) : Nat → Int32 := fun j => S j + rds (sc9 M b) 64 S j
theorem cmp9_st {M S T : Nat → Int32} {b : Nat} (h : ∀ j, j < 8 → S j = T j) (j : Nat) (hj : j < 8) : cmp9 M b S j = cmp9 M b T j := by
  unfold cmp9
  rw [h j hj, rds_st h 64 j hj]
theorem cmp9_congr {M N : Nat → Int32} {b : Nat} (S : Nat → Int32) (h : ∀ j, b ≤ j → j < b + 64 → M j &&& nI 255 = N j &&& nI 255) : cmp9 M b S = cmp9 N b S := by
  unfold cmp9
  rw [rds_congr S 64 (fun j hj => sc9_congr h j hj)]
/-- n bytes, with what comes behind them, 128 in all (57 to 119 bytes) -/
def pad9 (n : Nat) (f : Nat → Int32) : Nat → Int32 := fun j => if j < n then (f j).toInt8.toInt32 else if j = n then (nI 128).toInt8.toInt32 else if j = 126 then (nI (8 * n / 256)).toInt8.toInt32 else if j = 127 then (nI (8 * n % 256)).toInt8.toInt32 else (nI 0).toInt8.toInt32
def sum9 (n : Nat) (f : Nat → Int32) : Nat → Int32 := cmp9 (pad9 n f) 64 (cmp9 (pad9 n f) 0 kSq)
theorem sum9_congr {n : Nat} {f h : Nat → Int32} (e : ∀ j, j < n → f j = h j) : sum9 n f = sum9 n h := by
  have : pad9 n f = pad9 n h := by
    funext j
    unfold pad9
    by_cases q : j < n
    · rw [if_pos q, if_pos q, e j q]
    · rw [if_neg q, if_neg q]
  unfold sum9
  rw [this]
/-- byte k of a state -/
def dig9 (S : Nat → Int32) (k : Nat) : Int32 := (ush9 (S (k / 4)) (nI (24 - 8 * (k % 4)))).toInt8.toInt32
