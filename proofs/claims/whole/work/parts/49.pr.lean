/-! class and reference side by side: a lemma a kind of call -/
def Zf9 (tk : Nat) (fn : Nat → Nat) : Prop := ∀ p, 9 * tk ≤ p → fn p = 0
/-- both stand for one state, behind c calls -/
def St9 (g : cx_G) (w : wd_T) (c a0 m0 ao : Nat) : Prop := ∃ (fl : Int32) (tk gN rN tN : Nat) (fn wn : Nat → Nat) (gp by9 rD tD tV tT : Nat → Int32), TcAt g w a0 tk gN rN tN fn wn gp by9 rD tD tV tT ∧ MdAt g w m0 fl tk gN rN tN fn wn gp by9 rD tD tV tT ∧ Iv9 c tk gN rN tN fn wn by9 tD tV tT ∧ Zf9 tk fn ∧ ∃ fo : Nat → Int64, w 50 = some (ao, aL g 1 fo)
abbrev isI (v : Value) : Prop := ∃ a : Int32, v = .int a
abbrev isL (v : Value) : Prop := ∃ a : Int64, v = .long a
def Pr9 (l : Launch) (g : cx_G) (w : wd_T) (c a0 m0 ao : Nat) (yx : MethodName) (bx : ByteArray) (nx : Nat) (rx : Option FieldType) (dx mcx msx : Nat) (ym : MethodName) (bm : ByteArray) (nm : Nat) (rm : Option FieldType) (dm : Nat) (av : List Value) (isv : Value → Prop) : Prop :=
  ∃ (v9 : Value) (Mid : wd_T → Prop) (Fin : wd_T → wd_T → Prop), isv v9 ∧ Mt l g yx bx nx rx dx mcx msx w (.ref a0 :: av) (fun v w' => v = some v9 ∧ Mid w') ∧ (∀ w', Mid w' → (∃ fs, w' 0 = some (m0, ob 8 fs)) ∧ Mt l g ym bm nm rm dm 0 0 w' (.ref m0 :: av) (fun v w'' => v = some v9 ∧ Fin w' w'')) ∧ ∀ w' w'', Mid w' → Fin w' w'' → St9 g w'' (c + 1) a0 m0 ao
theorem MdAt.zero {g : cx_G} {w : wd_T} {m0 tk gN rN tN : Nat} {fl : Int32} {fn wn : Nat → Nat} {gp by9 rD tD tV tT : Nat → Int32} (h : MdAt g w m0 fl tk gN rN tN fn wn gp by9 rD tD tV tT) : ∃ fs, w 0 = some (m0, ob 8 fs) := by
  obtain ⟨ad, rS, fS, lv, fo, h0, -⟩ := h
  exact ⟨_, h0⟩
theorem pr_mk {l : Launch} {g : cx_G} {w : wd_T} {c a0 m0 ao : Nat} {yx : MethodName} {bx : ByteArray} {nx : Nat} {rx : Option FieldType} {dx mcx msx : Nat} {ym : MethodName} {bm : ByteArray} {nm : Nat} {rm : Option FieldType} {dm : Nat} {av : List Value} {isv : Value → Prop} {v9 : Value} {fl fl' : Int32} {tk gN rN tN tk' gN' rN' tN' : Nat} {fn wn fn' wn' : Nat → Nat} {gp by9 rD tD tV tT gp' by9' rD' tD' tV' tT' : Nat → Int32} {fo : Nat → Int64}
    (hM : MdAt g w m0 fl tk gN rN tN fn wn gp by9 rD tD tV tT) (h50 : w 50 = some (ao, aL g 1 fo))
    (hx : Mt l g yx bx nx rx dx mcx msx w (.ref a0 :: av) (fun v w' => v = some v9 ∧ TcAt g w' a0 tk' gN' rN' tN' fn' wn' gp' by9' rD' tD' tV' tT' ∧ Fl w w'))
    (hm : ∀ w', MdAt g w' m0 fl tk gN rN tN fn wn gp by9 rD tD tV tT → Mt l g ym bm nm rm dm 0 0 w' (.ref m0 :: av) (fun v w'' => v = some v9 ∧ MdAt g w'' m0 fl' tk' gN' rN' tN' fn' wn' gp' by9' rD' tD' tV' tT' ∧ Fm w' w''))
    (hI : Iv9 (c + 1) tk' gN' rN' tN' fn' wn' by9' tD' tV' tT') (hZ : Zf9 tk' fn') (hv : isv v9) : Pr9 l g w c a0 m0 ao yx bx nx rx dx mcx msx ym bm nm rm dm av isv :=
  ⟨v9, fun w' => TcAt g w' a0 tk' gN' rN' tN' fn' wn' gp' by9' rD' tD' tV' tT' ∧ Fl w w', fun w' w'' => MdAt g w'' m0 fl' tk' gN' rN' tN' fn' wn' gp' by9' rD' tD' tV' tT' ∧ Fm w' w'', hv, hx, fun w' h => ⟨(hM.kept (fun t ht => h.2 t (by omega))).zero, hm w' (hM.kept (fun t ht => h.2 t (by omega)))⟩, fun w' w'' h h' => ⟨fl', tk', gN', rN', tN', fn', wn', gp', by9', rD', tD', tV', tT', h.1.kept hI (fun t ht => h'.2 t (by omega)), h'.1, hI, hZ, fo, (h'.2 50 (by decide)).trans ((h.2 50 (by decide)).trans h50)⟩⟩
theorem cs9 (x : Int32) {n : Nat} (hn : n < 2 ^ 31) : (x < 0 ∨ nI n ≤ x) ∨ ∃ j : Nat, j < n ∧ x = nI j := by
  rcases pk_ix x hn with h | h | h
  · exact Or.inl (Or.inl h)
  · exact Or.inl (Or.inr h)
  · exact Or.inr h
theorem lst9 {P : Nat → Prop} {a : Nat} : ∀ n, (∀ r, a ≤ r → r < n → P r) ∨ ∃ r, a ≤ r ∧ r < n ∧ ¬ P r ∧ ∀ q, a ≤ q → q < r → P q
  | 0 => Or.inl (fun r _ h => absurd h (Nat.not_lt_zero r))
  | n + 1 => by
    rcases lst9 (P := P) (a := a) n with h | ⟨r, h1, h2, h3, h4⟩
    · by_cases z : a ≤ n ∧ ¬ P n
      · exact Or.inr ⟨n, z.1, by omega, z.2, h⟩
      · refine Or.inl (fun r h1 h2 => ?_)
        by_cases y : r = n
        · subst y
          exact Classical.byContradiction (fun k => z ⟨h1, k⟩)
        · exact h r h1 (by omega)
    · exact Or.inr ⟨r, h1, by omega, h3, h4⟩
theorem ok_n {f : Nat} {v : Int64} (hf : cb9 f) (h : ok9 (nI f) v) : ∃ n, n ≤ mx9 f ∧ v = lN n := by
  obtain ⟨f', n, e, hf', hn, ev⟩ := h
  have e2 : f' = f := by
    unfold cb9 at hf hf'
    exact ((nI_eq (a := f) (b := f') (by omega) (by omega)).mp e).symm
  subst e2
  exact ⟨n, hn, ev⟩
theorem wrF_fit {f : Nat → Int32} {n wd c : Nat} {v : Int64} (h : sb_Fit f) : sb_Fit (wrF f n wd c v) := by
  intro j
  unfold wrF
  by_cases z : n ≤ j ∧ j < n + c
  · rw [if_pos z]; exact pk_fb _
  · rw [if_neg z]; exact h j
theorem apR_fit {by9 fb : Nat → Int32} {n : Nat} (h : sb_Fit by9) (hf : sb_Fit fb) : sb_Fit (apR by9 n fb) := by
  intro p
  unfold apR
  by_cases z : 73 * n ≤ p ∧ p < 73 * n + 73
  · rw [if_pos z]; exact cpF_fit hf _
  · rw [if_neg z]; exact h p
theorem tkB_fit {nu vh kd gr ta sc ps : Nat} : sb_Fit (tkB nu vh kd gr ta sc ps) := wrF_fit (wrF_fit (wrF_fit (wrF_fit (wrF_fit (wrF_fit (wrF_fit (wrF_fit sb_fit0)))))))
theorem crB_fit {nu fd v ps : Nat} : sb_Fit (crB nu fd v ps) := wrF_fit (wrF_fit (wrF_fit (wrF_fit (wrF_fit sb_fit0))))
theorem vdR_fit {nu rs : Nat} : sb_Fit (vdR nu rs) := wrF_fit (wrF_fit (wrF_fit sb_fit0))
section
variable {c tk gN rN tN : Nat} {fn wn : Nat → Nat} {by9 tD tV tT : Nat → Int32}
theorem Iv9.up (h : Iv9 c tk gN rN tN fn wn by9 tD tV tT) (hc : c + 1 ≤ 48) : Iv9 (c + 1) tk gN rN tN fn wn by9 tD tV tT := by
  obtain ⟨i0, i1, i2, i3, i4, i5, i6, i7, i8, i9, i10⟩ := h
  exact ⟨hc, by omega, by omega, by omega, i4, i5, i6, i7, i8, i9, i10⟩
theorem Iv9.folY (h : Iv9 c tk gN rN tN fn wn by9 tD tV tT) (hc : c + 1 ≤ 48) {k9 ta : Nat} (ht : ta ≤ 1000000000) : Iv9 (c + 1) tk gN rN tN fn wn by9 tD tV (upd tT k9 (nI ta)) := by
  obtain ⟨i0, i1, i2, i3, i4, i5, i6, i7, i8, i9, i10⟩ := h
  refine ⟨hc, by omega, by omega, by omega, i4, i5, i6, i7, i8, fun j hj => ?_, i10⟩
  by_cases z : j = k9
  · subst z; exact ⟨ta, ht, pk_us⟩
  · rw [pk_un z]; exact i9 j hj
theorem Iv9.folA (h : Iv9 c tk gN rN tN fn wn by9 tD tV tT) (hc : c + 1 ≤ 48) {dy vh : Int32} {ta : Nat} (ht : ta ≤ 1000000000) (hn : ∀ k, lu9 tD tV dy vh tN = some k → tD k ≠ dy) : Iv9 (c + 1) tk gN rN (tN + 1) fn wn by9 (upd tD tN dy) (upd tV tN vh) (upd tT tN (nI ta)) := by
  obtain ⟨i0, i1, i2, i3, i4, i5, i6, i7, i8, i9, i10⟩ := h
  have no : ∀ j, j < tN → tD j = dy → tV j = vh → False := fun j hj a b => by
    obtain ⟨k8, e8, d8⟩ := lu9_hit tN j hj b a
    exact hn k8 e8 d8
  refine ⟨hc, by omega, by omega, by omega, i4, i5, i6, i7, i8, fun j hj => ?_, fun i j hi hj a b => ?_⟩
  · by_cases z : j = tN
    · subst z; exact ⟨ta, ht, pk_us⟩
    · rw [pk_un z]; exact i9 j (by omega)
  · by_cases zi : i = tN
    · by_cases zj : j = tN
      · rw [zi, zj]
      · rw [zi, pk_us, pk_un zj] at a b
        exact (no j (by omega) a.symm b.symm).elim
    · by_cases zj : j = tN
      · rw [zj, pk_us, pk_un zi] at a b
        exact (no i (by omega) a b).elim
      · rw [pk_un zi, pk_un zj] at a b
        exact i10 i j (by omega) (by omega) a b
theorem Iv9.gap (h : Iv9 c tk gN rN tN fn wn by9 tD tV tT) (hc : c + 1 ≤ 48) : Iv9 (c + 1) tk (gN + 1) rN tN fn wn by9 tD tV tT := by
  obtain ⟨i0, i1, i2, i3, i4, i5, i6, i7, i8, i9, i10⟩ := h
  exact ⟨hc, by omega, by omega, by omega, i4, i5, i6, i7, i8, i9, i10⟩
theorem stF_p {fn : Nat → Nat} {k k8 j : Nat} {l : List Nat} (hk : k8 ≠ k) (hj : j < 9) : stF fn k l (9 * k8 + j) = fn (9 * k8 + j) := if_neg (by omega)
theorem Iv9.tkt (h : Iv9 c tk gN rN tN fn wn by9 tD tV tT) (hc : c + 1 ≤ 48) {vh kd gr ta sc ps : Nat} (h1 : vh ≤ 99) (h2 : kd ≤ 9) (h3 : gr ≤ 1000000000) (h6 : sc ≤ 8000000000) (h7 : ps ≤ 999) (hg : ta ≤ gr) : Iv9 (c + 1) (tk + 1) gN (rN + 1) tN (stF fn tk (nwL (tk + gN) vh kd gr ta sc ps)) wn (apR by9 rN (tkB (tk + gN) vh kd gr ta sc ps)) tD tV tT := by
  obtain ⟨i0, i1, i2, i3, i4, i5, i6, i7, i8, i9, i10⟩ := h
  refine ⟨hc, by omega, by omega, by omega, fun k9 hk i hi => ?_, fun k9 hk => ?_, i6, fun p hp => i7 p (by omega), apR_fit i8 tkB_fit, i9, i10⟩
  · by_cases z : k9 = tk
    · subst z
      rw [stF_v hi]
      have cc : i = 0 ∨ i = 1 ∨ i = 2 ∨ i = 3 ∨ i = 4 ∨ i = 5 ∨ i = 6 ∨ i = 7 ∨ i = 8 := by omega
      rcases cc with rfl | rfl | rfl | rfl | rfl | rfl | rfl | rfl | rfl
      · exact Or.inl (show k9 + gN ≤ 999 by omega)
      · exact Or.inl (show vh ≤ 99 by omega)
      · exact Or.inl (show kd ≤ 9 by omega)
      · exact Or.inl (show gr ≤ 1000000000 by omega)
      · exact Or.inl (show ta ≤ 1000000000 by omega)
      · exact Or.inr rfl
      · exact Or.inl (show sc ≤ 8000000000 by omega)
      · exact Or.inl (show ps ≤ 999 by omega)
      · exact Or.inl (show 0 ≤ 99 by omega)
    · rw [stF_p z hi]
      exact i4 k9 (by omega) i hi
  · by_cases z : k9 = tk
    · subst z
      rw [stF_v (show 4 < 9 by decide), stF_v (show 3 < 9 by decide)]
      exact hg
    · rw [stF_p z (by decide), stF_p z (by decide)]
      exact i5 k9 (by omega)
theorem Zf9.tkt (h : Zf9 tk fn) {L : List Nat} : Zf9 (tk + 1) (stF fn tk L) := fun p hp => (if_neg (by omega) : stF fn tk L p = fn p).trans (h p (by omega))
theorem Iv9.put (h : Iv9 c tk gN rN tN fn wn by9 tD tV tT) (hc : c + 1 ≤ 48) {k9 f n : Nat} {fb : Nat → Int32} (hk9 : k9 < tk) (hf : f < 9) (hn : n ≤ fmx9 f) (hle : upN fn (9 * k9 + f) n (9 * k9 + 4) ≤ upN fn (9 * k9 + f) n (9 * k9 + 3)) (hb : sb_Fit fb) : Iv9 (c + 1) tk gN (rN + 1) tN (upN fn (9 * k9 + f) n) wn (apR by9 rN fb) tD tV tT := by
  obtain ⟨i0, i1, i2, i3, i4, i5, i6, i7, i8, i9, i10⟩ := h
  refine ⟨hc, by omega, by omega, by omega, fun k8 hk i hi => ?_, fun k8 hk => ?_, i6, i7, apR_fit i8 hb, i9, i10⟩
  · by_cases z : 9 * k8 + i = 9 * k9 + f
    · have e1 : i = f := by omega
      subst e1
      exact Or.inl (by unfold upN; rw [if_pos z]; exact hn)
    · unfold upN
      rw [if_neg z]
      exact i4 k8 hk i hi
  · by_cases z : k8 = k9
    · subst z; exact hle
    · unfold upN
      rw [if_neg (by omega), if_neg (by omega)]
      exact i5 k8 hk
theorem Zf9.put (h : Zf9 tk fn) {k9 f n : Nat} (hk9 : k9 < tk) (hf : f < 9) : Zf9 tk (upN fn (9 * k9 + f) n) := fun p hp => (if_neg (by omega) : upN fn (9 * k9 + f) n p = fn p).trans (h p hp)
theorem Iv9.spl (h : Iv9 c tk gN rN tN fn wn by9 tD tV tT) (hc : c + 1 ≤ 48) {k9 i n : Nat} (hk9 : k9 < tk) (hi : i < 8) (hn : n ≤ 1000000) : Iv9 (c + 1) tk gN rN tN fn (upN wn (8 * k9 + i) n) by9 tD tV tT := by
  obtain ⟨i0, i1, i2, i3, i4, i5, i6, i7, i8, i9, i10⟩ := h
  refine ⟨hc, by omega, by omega, by omega, i4, i5, fun p => ?_, fun p hp => ?_, i8, i9, i10⟩
  · unfold upN
    by_cases z : p = 8 * k9 + i
    · rw [if_pos z]; exact hn
    · rw [if_neg z]; exact i6 p
  · unfold upN
    rw [if_neg (by omega)]
    exact i7 p hp
theorem Iv9.pok (h : Iv9 c tk gN rN tN fn wn by9 tD tV tT) (hc : c + 1 ≤ 48) {a : Nat} {x : Int32} : Iv9 (c + 1) tk gN rN tN fn wn (upd by9 a x.toInt8.toInt32) tD tV tT := by
  obtain ⟨i0, i1, i2, i3, i4, i5, i6, i7, i8, i9, i10⟩ := h
  exact ⟨hc, by omega, by omega, by omega, i4, i5, i6, i7, sb_fitU i8 (pk_fb _), i9, i10⟩
end
theorem pr_at {l : Launch} {g : cx_G} {w : wd_T} {c a0 m0 ao : Nat} (h : St9 g w c a0 m0 ao) (hc : c + 1 ≤ 48) (x : Int32) (y : Int32) : Pr9 l g w c a0 m0 ao yX7_at cX7_at 4 (some .long) 4 0 0 yX8_at cX8_at 3 (some .long) 1 [.int x, .int y] isL := by
  obtain ⟨fl, tk, gN, rN, tN, fn, wn, gp, by9, rD, tD, tV, tT, hT, hM, hI, hZ, fo, h50⟩ := h
  have hU := hI.up hc
  obtain ⟨i0, i1, i2, i3, i4, i5, i6, i7, i8, i9, i10⟩ := id hI
  rcases cs9 x (n := tk) (by omega) with hx | ⟨k9, hk9, rfl⟩
  · exact pr_mk hM h50 (x_at_n hT hI hx) (fun w' hw' => y_at_n hw' hI hx) hU hZ ⟨_, rfl⟩
  · rcases cs9 y (n := 9) (by decide) with hy | ⟨i, hi, rfl⟩
    · exact pr_mk hM h50 (x_at_f hT hI hk9 hy) (fun w' hw' => y_at_f hw' hI hk9 hy) hU hZ ⟨_, rfl⟩
    · exact pr_mk hM h50 (x_at_y hT hI hk9 hi) (fun w' hw' => y_at_y hw' hI hk9 hi) hU hZ ⟨_, rfl⟩
theorem pr_num {l : Launch} {g : cx_G} {w : wd_T} {c a0 m0 ao : Nat} (h : St9 g w c a0 m0 ao) (hc : c + 1 ≤ 48) (x : Int32) : Pr9 l g w c a0 m0 ao yX7_number cX7_number 3 (some .int) 4 0 0 yX8_number cX8_number 2 (some .int) 1 [.int x] isI := by
  obtain ⟨fl, tk, gN, rN, tN, fn, wn, gp, by9, rD, tD, tV, tT, hT, hM, hI, hZ, fo, h50⟩ := h
  have hU := hI.up hc
  obtain ⟨i0, i1, i2, i3, i4, i5, i6, i7, i8, i9, i10⟩ := id hI
  rcases cs9 x (n := tk) (by omega) with hx | ⟨k9, hk9, rfl⟩
  · exact pr_mk hM h50 (x_num_n hT hI hx) (fun w' hw' => y_num_n hw' hI hx) hU hZ ⟨_, rfl⟩
  · exact pr_mk hM h50 (x_num_y hT hI hk9) (fun w' hw' => y_num_y hw' hI hk9) hU hZ ⟨_, rfl⟩
theorem pr_gap {l : Launch} {g : cx_G} {w : wd_T} {c a0 m0 ao : Nat} (h : St9 g w c a0 m0 ao) (hc : c + 1 ≤ 48) (x : Int32) : Pr9 l g w c a0 m0 ao yX7_gap cX7_gap 2 (some .int) 0 0 0 yX8_gap cX8_gap 2 (some .int) 0 [.int x] isI := by
  obtain ⟨fl, tk, gN, rN, tN, fn, wn, gp, by9, rD, tD, tV, tT, hT, hM, hI, hZ, fo, h50⟩ := h
  have hU := hI.up hc
  obtain ⟨i0, i1, i2, i3, i4, i5, i6, i7, i8, i9, i10⟩ := id hI
  rcases cs9 x (n := gN) (by omega) with hx | ⟨k9, hk9, rfl⟩
  · exact pr_mk hM h50 (x_gap_n hT hI hx) (fun w' hw' => y_gap_n hw' hI hx) hU hZ ⟨_, rfl⟩
  · exact pr_mk hM h50 (x_gap_y hT hI hk9) (fun w' hw' => y_gap_y hw' hI hk9) hU hZ ⟨_, rfl⟩
theorem pr_rows {l : Launch} {g : cx_G} {w : wd_T} {c a0 m0 ao : Nat} (h : St9 g w c a0 m0 ao) (hc : c + 1 ≤ 48)  : Pr9 l g w c a0 m0 ao yX7_rows cX7_rows 1 (some .int) 2 0 0 yX8_rows cX8_rows 1 (some .int) 0 [] isI := by
  obtain ⟨fl, tk, gN, rN, tN, fn, wn, gp, by9, rD, tD, tV, tT, hT, hM, hI, hZ, fo, h50⟩ := h
  have hU := hI.up hc
  obtain ⟨i0, i1, i2, i3, i4, i5, i6, i7, i8, i9, i10⟩ := id hI
  exact pr_mk hM h50 (x_rows hT hI ) (fun w' hw' => y_rows hw' hI ) hU hZ ⟨_, rfl⟩
theorem pr_made {l : Launch} {g : cx_G} {w : wd_T} {c a0 m0 ao : Nat} (h : St9 g w c a0 m0 ao) (hc : c + 1 ≤ 48)  : Pr9 l g w c a0 m0 ao yX7_made cX7_made 1 (some .int) 0 0 0 yX8_made cX8_made 1 (some .int) 0 [] isI := by
  obtain ⟨fl, tk, gN, rN, tN, fn, wn, gp, by9, rD, tD, tV, tT, hT, hM, hI, hZ, fo, h50⟩ := h
  have hU := hI.up hc
  obtain ⟨i0, i1, i2, i3, i4, i5, i6, i7, i8, i9, i10⟩ := id hI
  exact pr_mk hM h50 (x_made hT hI ) (fun w' hw' => y_made hw' hI ) hU hZ ⟨_, rfl⟩
theorem pr_spl {l : Launch} {g : cx_G} {w : wd_T} {c a0 m0 ao : Nat} (h : St9 g w c a0 m0 ao) (hc : c + 1 ≤ 48) (x : Int32) (y : Int32) (z : Int64) : Pr9 l g w c a0 m0 ao yX7_split cX7_split 6 (some .boolean) 4 0 0 yX8_split cX8_split 5 (some .boolean) 1 [.int x, .int y, .long z] isI := by
  obtain ⟨fl, tk, gN, rN, tN, fn, wn, gp, by9, rD, tD, tV, tT, hT, hM, hI, hZ, fo, h50⟩ := h
  have hU := hI.up hc
  obtain ⟨i0, i1, i2, i3, i4, i5, i6, i7, i8, i9, i10⟩ := id hI
  rcases cs9 x (n := tk) (by omega) with hx | ⟨k9, hk9, rfl⟩
  · exact pr_mk hM h50 (x_spl_n hT hI hx) (fun w' hw' => y_spl_n hw' hI hx) hU hZ ⟨_, rfl⟩
  · by_cases hz : ∃ n, n ≤ 1000000 ∧ z = lN n
    · obtain ⟨n, hn, rfl⟩ := hz
      rcases cs9 y (n := 8) (by decide) with hy | ⟨i, hi, rfl⟩
      · exact pr_mk hM h50 (x_spl_c hT hI hk9 hn hy) (fun w' hw' => y_spl_c hw' hI hk9 hy) hU hZ ⟨_, rfl⟩
      · exact pr_mk hM h50 (x_spl_y hT hI hk9 hi hn) (fun w' hw' => y_spl_y hw' hI hk9 hi hn) (hI.spl hc hk9 hi hn) hZ ⟨_, rfl⟩
    · rcases cs9 y (n := 8) (by decide) with hy | ⟨i, hi, rfl⟩
      · exact pr_mk hM h50 (x_spl_w hT hI hk9 hz) (fun w' hw' => y_spl_c hw' hI hk9 hy) hU hZ ⟨_, rfl⟩
      · exact pr_mk hM h50 (x_spl_w hT hI hk9 hz) (fun w' hw' => y_spl_w hw' hI hk9 hi hz) hU hZ ⟨_, rfl⟩
theorem pr_shr {l : Launch} {g : cx_G} {w : wd_T} {c a0 m0 ao : Nat} (h : St9 g w c a0 m0 ao) (hc : c + 1 ≤ 48) (x : Int32) (y : Int32) : Pr9 l g w c a0 m0 ao yX7_share cX7_share 4 (some .long) 5 0 0 yX8_share cX8_share 16 (some .long) 2 [.int x, .int y] isL := by
  obtain ⟨fl, tk, gN, rN, tN, fn, wn, gp, by9, rD, tD, tV, tT, hT, hM, hI, hZ, fo, h50⟩ := h
  have hU := hI.up hc
  obtain ⟨i0, i1, i2, i3, i4, i5, i6, i7, i8, i9, i10⟩ := id hI
  rcases cs9 x (n := tk) (by omega) with hx | ⟨k9, hk9, rfl⟩
  · exact pr_mk hM h50 (x_shr_n hT hI hx) (fun w' hw' => y_shr_n hw' hI hx) hU hZ ⟨_, rfl⟩
  · rcases cs9 y (n := 8) (by decide) with hy | ⟨i, hi, rfl⟩
    · exact pr_mk hM h50 (x_shr_c hT hI hk9 hy) (fun w' hw' => y_shr_c hw' hI hk9 hy) hU hZ ⟨_, rfl⟩
    · exact pr_mk hM h50 (x_shr_y hT hI hk9 hi) (fun w' hw' => y_shr_y hw' hI hk9 hi) hU hZ ⟨_, rfl⟩
theorem pr_prt {l : Launch} {g : cx_G} {w : wd_T} {c a0 m0 ao : Nat} (h : St9 g w c a0 m0 ao) (hc : c + 1 ≤ 48) (x : Int32) (y : Int32) : Pr9 l g w c a0 m0 ao yX7_print cX7_print 4 (some .int) 5 0 0 yX8_print cX8_print 4 (some .int) 2 [.int x, .int y] isI := by
  obtain ⟨fl, tk, gN, rN, tN, fn, wn, gp, by9, rD, tD, tV, tT, hT, hM, hI, hZ, fo, h50⟩ := h
  have hU := hI.up hc
  obtain ⟨i0, i1, i2, i3, i4, i5, i6, i7, i8, i9, i10⟩ := id hI
  rcases cs9 x (n := tk) (by omega) with hx | ⟨k9, hk9, rfl⟩
  · exact pr_mk hM h50 (x_prt_n hT hI hx) (fun w' hw' => y_prt_n hw' hI hx) hU hZ ⟨_, rfl⟩
  · have hl := fmT_len (fv9_fb hI hk9)
    rcases cs9 y (n := (fmT (fv9 fn k9)).length) (by omega) with hy | ⟨i, hi, rfl⟩
    · exact pr_mk hM h50 (x_prt_f hT hI hk9 hy) (fun w' hw' => y_prt_f hw' hI hk9 hy) hU hZ ⟨_, rfl⟩
    · exact pr_mk hM h50 (x_prt_y hT hI hk9 hi) (fun w' hw' => y_prt_y hw' hI hk9 hi) hU hZ ⟨_, rfl⟩
theorem pr_pk {l : Launch} {g : cx_G} {w : wd_T} {c a0 m0 ao : Nat} (h : St9 g w c a0 m0 ao) (hc : c + 1 ≤ 48) (x : Int32) (y : Int32) (z : Int32) : Pr9 l g w c a0 m0 ao yX7_poke cX7_poke 5 (some .boolean) 4 0 0 yX8_poke cX8_poke 4 (some .boolean) 1 [.int x, .int y, .int z] isI := by
  obtain ⟨fl, tk, gN, rN, tN, fn, wn, gp, by9, rD, tD, tV, tT, hT, hM, hI, hZ, fo, h50⟩ := h
  have hU := hI.up hc
  obtain ⟨i0, i1, i2, i3, i4, i5, i6, i7, i8, i9, i10⟩ := id hI
  rcases cs9 x (n := rN) (by omega) with hx | ⟨k9, hk9, rfl⟩
  · exact pr_mk hM h50 (x_pk_n hT hI hx) (fun w' hw' => y_pk_n hw' hI hx) hU hZ ⟨_, rfl⟩
  · by_cases hz : z < nI 1 ∨ nI 255 < z
    · rcases cs9 y (n := 73) (by decide) with hy | ⟨i, hi, rfl⟩
      · exact pr_mk hM h50 (x_pk_m hT hI hk9 hz) (fun w' hw' => y_pk_i hw' hI hk9 hy) hU hZ ⟨_, rfl⟩
      · exact pr_mk hM h50 (x_pk_m hT hI hk9 hz) (fun w' hw' => y_pk_m hw' hI hk9 hi hz) hU hZ ⟨_, rfl⟩
    · have hz1 : ¬ z < nI 1 := fun q => hz (Or.inl q)
      have hz2 : z ≤ nI 255 := Int32.not_lt.mp (fun q => hz (Or.inr q))
      rcases cs9 y (n := 73) (by decide) with hy | ⟨i, hi, rfl⟩
      · exact pr_mk hM h50 (x_pk_i hT hI hk9 hz1 hz2 hy) (fun w' hw' => y_pk_i hw' hI hk9 hy) hU hZ ⟨_, rfl⟩
      · exact pr_mk hM h50 (x_pk_y hT hI hk9 hi hz1 hz2) (fun w' hw' => y_pk_y hw' hI hk9 hi hz1 hz2) (hI.pok hc) hZ ⟨_, rfl⟩
theorem pr_dig {l : Launch} {g : cx_G} {w : wd_T} {c a0 m0 ao : Nat} (h : St9 g w c a0 m0 ao) (hc : c + 1 ≤ 48) (x : Int32) (y : Int32) : Pr9 l g w c a0 m0 ao yX7_digest cX7_digest 4 (some .int) 4 0 0 yX8_digest cX8_digest 3 (some .int) 1 [.int x, .int y] isI := by
  obtain ⟨fl, tk, gN, rN, tN, fn, wn, gp, by9, rD, tD, tV, tT, hT, hM, hI, hZ, fo, h50⟩ := h
  have hU := hI.up hc
  obtain ⟨i0, i1, i2, i3, i4, i5, i6, i7, i8, i9, i10⟩ := id hI
  rcases cs9 x (n := rN) (by omega) with hx | ⟨k9, hk9, rfl⟩
  · exact pr_mk hM h50 (x_dig_n hT hI hx) (fun w' hw' => y_dig_n hw' hI hx) hU hZ ⟨_, rfl⟩
  · rcases cs9 y (n := 32) (by decide) with hy | ⟨i, hi, rfl⟩
    · exact pr_mk hM h50 (x_dig_i hT hI hk9 hy) (fun w' hw' => y_dig_i hw' hI hk9 hy) hU hZ ⟨_, rfl⟩
    · exact pr_mk hM h50 (x_dig_y hT hI hk9 hi) (fun w' hw' => y_dig_y hw' hI hk9 hi) hU hZ ⟨_, rfl⟩
theorem pr_chk {l : Launch} {g : cx_G} {w : wd_T} {c a0 m0 ao : Nat} (h : St9 g w c a0 m0 ao) (hc : c + 1 ≤ 48) (x : Int32) : Pr9 l g w c a0 m0 ao yX7_check cX7_check 3 (some .int) 6 0 0 yX8_check cX8_check 4 (some .int) 4 [.int x] isI := by
  obtain ⟨fl, tk, gN, rN, tN, fn, wn, gp, by9, rD, tD, tV, tT, hT, hM, hI, hZ, fo, h50⟩ := h
  have hU := hI.up hc
  obtain ⟨i0, i1, i2, i3, i4, i5, i6, i7, i8, i9, i10⟩ := id hI
  rcases cs9 x (n := rN + 1) (by omega) with hx | ⟨k9, hk9, rfl⟩
  · have hx' : x < 0 ∨ nI rN < x := hx.elim Or.inl (fun q => Or.inr (Int32.lt_of_lt_of_le ((nI_ltI (a := rN) (b := rN + 1) (by omega) (by omega)).mpr (by omega)) q))
    exact pr_mk hM h50 (x_chk_n hT hI hx') (fun w' hw' => y_chk_n hw' hI hx') hU hZ ⟨_, rfl⟩
  · rcases lst9 (P := okR by9) (a := k9) rN with hall | ⟨r, h1, h2, h3, h4⟩
    · exact pr_mk hM h50 (x_chk_0 hT hI (by omega) hall) (fun w' hw' => y_chk_0 hw' hI (by omega) hall) hU hZ ⟨_, rfl⟩
    · exact pr_mk hM h50 (x_chk_r hT hI (by omega) h1 h2 h3 h4) (fun w' hw' => y_chk_r hw' hI (by omega) h1 h2 h3 h4) hU hZ ⟨_, rfl⟩
theorem pr_root {l : Launch} {g : cx_G} {w : wd_T} {c a0 m0 ao : Nat} (h : St9 g w c a0 m0 ao) (hc : c + 1 ≤ 48) (x : Int32) (y : Int32) : Pr9 l g w c a0 m0 ao yX7_root cX7_root 3 (some .int) 6 0 0 yX8_root cX8_root 6 (some .int) 4 [.int x, .int y] isI := by
  obtain ⟨fl, tk, gN, rN, tN, fn, wn, gp, by9, rD, tD, tV, tT, hT, hM, hI, hZ, fo, h50⟩ := h
  have hU := hI.up hc
  obtain ⟨i0, i1, i2, i3, i4, i5, i6, i7, i8, i9, i10⟩ := id hI
  rcases cs9 y (n := 32) (by decide) with hy | ⟨i, hi, rfl⟩
  · exact pr_mk hM h50 (x_root_n hT hI hy) (fun w' hw' => y_root_n hw' hI hy) hU hZ ⟨_, rfl⟩
  · exact pr_mk hM h50 (x_root_y hT hI hi) (fun w' hw' => y_root_y hw' hI hi) hU hZ ⟨_, rfl⟩
theorem pr_vd {l : Launch} {g : cx_G} {w : wd_T} {c a0 m0 ao : Nat} (h : St9 g w c a0 m0 ao) (hc : c + 1 ≤ 48) (x : Int32) (y : Int32) : Pr9 l g w c a0 m0 ao yX7_voids cX7_voids 4 (some .int) 8 3 536 yX8_voids cX8_voids 4 (some .int) 5 [.int x, .int y] isI := by
  obtain ⟨fl, tk, gN, rN, tN, fn, wn, gp, by9, rD, tD, tV, tT, hT, hM, hI, hZ, fo, h50⟩ := h
  have hU := hI.up hc
  obtain ⟨i0, i1, i2, i3, i4, i5, i6, i7, i8, i9, i10⟩ := id hI
  rcases cs9 x (n := tk) (by omega) with hx | ⟨k9, hk9, rfl⟩
  · exact pr_mk hM h50 (x_vd_n hT hI hx) (fun w' hw' => y_vd_n hw' hI hx) hU hZ ⟨_, rfl⟩
  · have hc9 : (y < nI 1 ∨ nI 99 < y) ∨ ∃ rs, 1 ≤ rs ∧ rs ≤ 99 ∧ y = nI rs := by
      rcases cs9 y (n := 100) (by decide) with hy | ⟨i, hi, rfl⟩
      · exact Or.inl (hy.elim (fun q => Or.inl (Int32.lt_trans q (by decide))) (fun q => Or.inr (Int32.lt_of_lt_of_le (by decide) q)))
      · by_cases z : i = 0
        · subst z; exact Or.inl (Or.inl (by decide))
        · exact Or.inr ⟨i, by omega, by omega, rfl⟩
    rcases hc9 with hy | ⟨rs, hr1, hr2, rfl⟩
    · exact pr_mk hM h50 (x_vd_r hT hI hk9 hy) (fun w' hw' => y_vd_r hw' hI hk9 hy) hU hZ ⟨_, rfl⟩
    · by_cases hz : fn (9 * k9 + 8) = 0
      · exact pr_mk hM h50 (x_vd_y hT hI hk9 hr1 hr2 hz) (fun w' hw' => y_vd_y hw' hI hk9 hr1 hr2 hz) (hI.put hc hk9 (by decide) (show rs ≤ 99 from hr2) (by rw [upN_ne (by omega), upN_ne (by omega)]; exact i5 k9 hk9) vdR_fit) (hZ.put hk9 (by decide)) ⟨_, rfl⟩
      · exact pr_mk hM h50 (x_vd_v hT hI hk9 hr1 hr2 hz) (fun w' hw' => y_vd_v hw' hI hk9 hr1 hr2 hz) hU hZ ⟨_, rfl⟩
theorem pr_cr {l : Launch} {g : cx_G} {w : wd_T} {c a0 m0 ao : Nat} (h : St9 g w c a0 m0 ao) (hc : c + 1 ≤ 48) (x : Int32) (y : Int32) (z : Int64) (ps : Int32) : Pr9 l g w c a0 m0 ao yX7_correct cX7_correct 7 (some .int) 8 3 536 yX8_correct cX8_correct 11 (some .int) 5 [.int x, .int y, .long z, .int ps] isI := by
  obtain ⟨fl, tk, gN, rN, tN, fn, wn, gp, by9, rD, tD, tV, tT, hT, hM, hI, hZ, fo, h50⟩ := h
  have hU := hI.up hc
  obtain ⟨i0, i1, i2, i3, i4, i5, i6, i7, i8, i9, i10⟩ := id hI
  rcases cs9 x (n := tk) (by omega) with hx | ⟨k9, hk9, rfl⟩
  · exact pr_mk hM h50 (x_cr_n hT hI hx) (fun w' hw' => y_cr_n hw' hI hx) hU hZ ⟨_, rfl⟩
  · by_cases hb : ok9 y z ∧ ok9 (nI 7) ps.toInt64
    · obtain ⟨⟨f, n, rfl, hf, hn, rfl⟩, h7⟩ := hb
      obtain ⟨pn, hp, ep⟩ := ok_n (by unfold cb9; omega) h7
      have hp9 : pn ≤ 999 := hp
      have ep2 := i_of (show pn < 2 ^ 31 by omega) ep
      subst ep2
      have hf9 : f < 9 := by unfold cb9 at hf; omega
      have hmx : mx9 f = fmx9 f := by unfold cb9 at hf; rcases hf with rfl | rfl | rfl | rfl | rfl | rfl <;> rfl
      by_cases hz : fn (9 * k9 + 8) = 0
      · by_cases hle : upN fn (9 * k9 + f) n (9 * k9 + 4) ≤ upN fn (9 * k9 + f) n (9 * k9 + 3)
        · exact pr_mk hM h50 (x_cr_y hT hI hk9 hf hn hp9 hz hle) (fun w' hw' => y_cr_y hw' hI hk9 hf hn hp9 hz hle) (hI.put hc hk9 hf9 (by rw [← hmx]; exact hn) hle crB_fit) (hZ.put hk9 hf9) ⟨_, rfl⟩
        · exact pr_mk hM h50 (x_cr_g hT hI hk9 hf hn hp9 hz hle) (fun w' hw' => y_cr_g hw' hI hk9 hf hn hp9 hz hle) hU hZ ⟨_, rfl⟩
      · exact pr_mk hM h50 (x_cr_v hT hI hk9 hf hn hp9 hz) (fun w' hw' => y_cr_v hw' hI hk9 hf hn hp9 hz) hU hZ ⟨_, rfl⟩
    · exact pr_mk hM h50 (x_cr_b hT hI hk9 hb) (fun w' hw' => y_cr_b hw' hI hk9 hb) hU hZ ⟨_, rfl⟩
theorem pr_fol {l : Launch} {g : cx_G} {w : wd_T} {c a0 m0 ao : Nat} (h : St9 g w c a0 m0 ao) (hc : c + 1 ≤ 48) (x : Int32) (y : Int32) (z : Int64) : Pr9 l g w c a0 m0 ao yX7_follows cX7_follows 5 (some .boolean) 8 2 463 yX8_follows cX8_follows 6 (some .boolean) 1 [.int x, .int y, .long z] isI := by
  obtain ⟨fl, tk, gN, rN, tN, fn, wn, gp, by9, rD, tD, tV, tT, hT, hM, hI, hZ, fo, h50⟩ := h
  have hU := hI.up hc
  obtain ⟨i0, i1, i2, i3, i4, i5, i6, i7, i8, i9, i10⟩ := id hI
  by_cases hb : (¬ x < 0) ∧ (¬ nI 100000 < x) ∧ ok9 (nI 1) y.toInt64 ∧ ok9 (nI 4) z
  · obtain ⟨hd1, hd2, h1, h4⟩ := hb
    rcases cs9 x (n := 100001) (by decide) with hx | ⟨d9, hd, rfl⟩
    · exact (hx.elim hd1 (fun q => hd2 (Int32.lt_of_lt_of_le (by decide) q))).elim
    · obtain ⟨vn, hv, ev⟩ := ok_n (by unfold cb9; omega) h1
      have hv9 : vn ≤ 99 := hv
      have ev2 := i_of (show vn < 2 ^ 31 by omega) ev
      subst ev2
      obtain ⟨ta, ht, rfl⟩ := ok_n (by unfold cb9; omega) h4
      have ht9 : ta ≤ 1000000000 := ht
      have hd9 : d9 ≤ 100000 := by omega
      by_cases hq : ∃ k9, lu9 tD tV (nI d9) (nI vn) tN = some k9 ∧ tD k9 = nI d9
      · obtain ⟨k9, e9, e8⟩ := hq
        exact pr_mk hM h50 (x_fol_y hT hI hd9 hv9 ht9 e9 e8) (fun w' hw' => y_fol_y hw' hI hd9 hv9 ht9 e9 e8) (hI.folY hc ht9) hZ ⟨_, rfl⟩
      · have hn : ∀ k, lu9 tD tV (nI d9) (nI vn) tN = some k → tD k ≠ nI d9 := fun k e z => hq ⟨k, e, z⟩
        exact pr_mk hM h50 (x_fol_a hT hI hd9 hv9 ht9 hn) (fun w' hw' => y_fol_a hw' hI hd9 hv9 ht9 hn) (hI.folA hc ht9 hn) hZ ⟨_, rfl⟩
  · exact pr_mk hM h50 (x_fol_n hT hI hb) (fun w' hw' => y_fol_n hw' hI hb) hU hZ ⟨_, rfl⟩
theorem pr_tk {l : Launch} {g : cx_G} {w : wd_T} {c a0 m0 ao : Nat} (h : St9 g w c a0 m0 ao) (hc : c + 1 ≤ 48) (vh : Int32) (kd : Int32) (gr : Int64) (tr : Int64) (sc : Int64) (ps : Int32) : Pr9 l g w c a0 m0 ao yX7_ticket cX7_ticket 13 (some .int) 8 7 1015 yX8_ticket cX8_ticket 15 (some .int) 5 [.int vh, .int kd, .long gr, .long tr, .long sc, .int ps] isI := by
  obtain ⟨fl, tk, gN, rN, tN, fn, wn, gp, by9, rD, tD, tV, tT, hT, hM, hI, hZ, fo, h50⟩ := h
  have hU := hI.up hc
  obtain ⟨i0, i1, i2, i3, i4, i5, i6, i7, i8, i9, i10⟩ := id hI
  by_cases hb : ok9 (nI 1) vh.toInt64 ∧ ok9 (nI 2) kd.toInt64 ∧ ok9 (nI 3) gr ∧ ok9 (nI 6) sc ∧ ok9 (nI 7) ps.toInt64
  · obtain ⟨h1, h2, h3, h6, h7⟩ := hb
    obtain ⟨vn, h1v, e1⟩ := ok_n (by unfold cb9; omega) h1
    obtain ⟨kn, h2v, e2⟩ := ok_n (by unfold cb9; omega) h2
    obtain ⟨gn, h3v, rfl⟩ := ok_n (by unfold cb9; omega) h3
    obtain ⟨sn, h6v, rfl⟩ := ok_n (by unfold cb9; omega) h6
    obtain ⟨pn, h7v, e7⟩ := ok_n (by unfold cb9; omega) h7
    have h1v : vn ≤ 99 := h1v
    have h2v : kn ≤ 9 := h2v
    have h3v : gn ≤ 1000000000 := h3v
    have h6v : sn ≤ 8000000000 := h6v
    have h7v : pn ≤ 999 := h7v
    have e1 := i_of (show vn < 2 ^ 31 by omega) e1
    have e2 := i_of (show kn < 2 ^ 31 by omega) e2
    have e7 := i_of (show pn < 2 ^ 31 by omega) e7
    subst e1 e2 e7
    by_cases ht1 : tr = -1
    · cases e9 : lu9 tD tV (nI (sn / 86400)) (nI vn) tN with
      | none =>
        subst ht1
        exact pr_mk hM h50 (x_tk_u hT hI h1v h2v h3v h6v h7v e9) (fun w' hw' => y_tk_u hw' hI h1v h2v h3v h6v h7v e9) hU hZ ⟨_, rfl⟩
      | some k9 =>
        obtain ⟨ta, hta, et⟩ := i9 k9 (lu9_lt tN k9 e9).1
        have htr : tr = lN ta ∨ (tr = -1 ∧ ∃ k9, lu9 tD tV (nI (sn / 86400)) (nI vn) tN = some k9 ∧ tT k9 = nI ta) := Or.inr ⟨ht1, k9, e9, et⟩
        by_cases hg : ta ≤ gn
        · exact pr_mk hM h50 (x_tk_y hT hI h1v h2v h3v h6v h7v hta htr hg) (fun w' hw' => y_tk_y hw' hI h1v h2v h3v h6v h7v hta htr hg (hZ _ (by omega))) (hI.tkt hc h1v h2v h3v h6v h7v hg) hZ.tkt ⟨_, rfl⟩
        · exact pr_mk hM h50 (x_tk_s hT hI h1v h2v h3v h6v h7v hta htr (by omega)) (fun w' hw' => y_tk_s hw' hI h1v h2v h3v h6v h7v hta htr (by omega)) (hI.gap hc) hZ ⟨_, rfl⟩
    · by_cases ht2 : ok9 (nI 4) tr
      · obtain ⟨ta, hta, et⟩ := ok_n (by unfold cb9; omega) ht2
        have hta : ta ≤ 1000000000 := hta
        have htr : tr = lN ta ∨ (tr = -1 ∧ ∃ k9, lu9 tD tV (nI (sn / 86400)) (nI vn) tN = some k9 ∧ tT k9 = nI ta) := Or.inl et
        by_cases hg : ta ≤ gn
        · exact pr_mk hM h50 (x_tk_y hT hI h1v h2v h3v h6v h7v hta htr hg) (fun w' hw' => y_tk_y hw' hI h1v h2v h3v h6v h7v hta htr hg (hZ _ (by omega))) (hI.tkt hc h1v h2v h3v h6v h7v hg) hZ.tkt ⟨_, rfl⟩
        · exact pr_mk hM h50 (x_tk_s hT hI h1v h2v h3v h6v h7v hta htr (by omega)) (fun w' hw' => y_tk_s hw' hI h1v h2v h3v h6v h7v hta htr (by omega)) (hI.gap hc) hZ ⟨_, rfl⟩
      · exact pr_mk hM h50 (x_tk_t hT hI h1v h2v h3v h6v h7v ht1 ht2) (fun w' hw' => y_tk_t hw' hI h1v h2v h3v h6v h7v ht1 ht2) hU hZ ⟨_, rfl⟩
  · exact pr_mk hM h50 (x_tk_b hT hI hb) (fun w' hw' => y_tk_b hw' hI hb) hU hZ ⟨_, rfl⟩
