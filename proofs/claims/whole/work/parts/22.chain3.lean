/-! Chain: init, gather, pairUp, rootByte -/
def lfN (rD : Nat → Int32) (dy : Int32) : Nat → Nat
  | 0 => 0
  | n + 1 => if rD n = dy then lfN rD dy n + 1 else lfN rD dy n
theorem lfN_le {rD : Nat → Int32} {dy : Int32} : ∀ n, lfN rD dy n ≤ n
  | 0 => Nat.le_refl 0
  | n + 1 => by
    have h := lfN_le (rD := rD) (dy := dy) n
    rw [lfN]
    split <;> omega
/-- the first level: the digests of a day's rows -/
def lfL (by9 rD : Nat → Int32) (dy : Int32) : Nat → Nat → Int32
  | 0 => fun _ => 0
  | n + 1 => if rD n = dy then (fun p => if 32 * lfN rD dy n ≤ p ∧ p < 32 * lfN rD dy n + 32 then by9 (73 * n + (41 + (p - 32 * lfN rD dy n))) else lfL by9 rD dy n p) else lfL by9 rD dy n
theorem lfN_y {rD : Nat → Int32} {dy : Int32} {n : Nat} (h : rD n = dy) : lfN rD dy (n + 1) = lfN rD dy n + 1 := if_pos h
theorem lfN_n {rD : Nat → Int32} {dy : Int32} {n : Nat} (h : ¬ rD n = dy) : lfN rD dy (n + 1) = lfN rD dy n := if_neg h
theorem lfL_n {by9 rD : Nat → Int32} {dy : Int32} {n : Nat} (h : ¬ rD n = dy) : lfL by9 rD dy (n + 1) = lfL by9 rD dy n := if_neg h
theorem lfL_y {by9 rD : Nat → Int32} {dy : Int32} {n p : Nat} (h : rD n = dy) : lfL by9 rD dy (n + 1) p = if 32 * lfN rD dy n ≤ p ∧ p < 32 * lfN rD dy n + 32 then by9 (73 * n + (41 + (p - 32 * lfN rD dy n))) else lfL by9 rD dy n p := by
  rw [lfL, if_pos h]
theorem lfL_cpy {by9 rD fb lev : Nat → Int32} {dy : Int32} {n : Nat} (h : rD n = dy) (hb : ∀ j, j < 73 → fb j = by9 (73 * n + j)) (hl : ∀ p, p < 32 * lfN rD dy n → lev p = lfL by9 rD dy n p) : ∀ p, p < 32 * lfN rD dy (n + 1) → va_cpy fb lev 41 (lfN rD dy n * 32) 32 p = lfL by9 rD dy (n + 1) p := by
  intro p hp
  rw [lfN_y h] at hp
  rw [lfL_y h]
  rcases Nat.lt_or_ge p (32 * lfN rD dy n) with q | q
  · rw [pk_cpy_out (by omega), if_neg (by omega), hl p q]
  · rw [pk_cpy_in (by omega) (by omega), if_pos (by omega), hb _ (by omega)]
    congr 2
    omega
/-- the next level over m digests -/
def nx9 (m : Nat) (L : Nat → Int32) : Nat → Int32 := fun p => if 2 * (p / 32) + 1 < m then dig9 (sum9 64 (fun j => L (64 * (p / 32) + j))) (p % 32) else L (64 * (p / 32) + p % 32)
def rt9 : Nat → Nat → (Nat → Int32) → Nat → Int32
  | 0, _, L => L
  | f + 1, m, L => if m ≤ 1 then L else rt9 f ((m + 1) / 2) (nx9 m L)
theorem rt9_1 {f m : Nat} {L : Nat → Int32} (h : m ≤ 1) : rt9 f m L = L := by
  cases f with
  | zero => rfl
  | succ f => exact if_pos h
theorem rt9_2 {f m : Nat} {L : Nat → Int32} (h : ¬ m ≤ 1) : rt9 (f + 1) m L = rt9 f ((m + 1) / 2) (nx9 m L) := if_neg h
theorem nx9_1 {m q : Nat} {L lev sta : Nat → Int32} (h : 2 * q + 1 < m) (h1 : ∀ p, p < 32 * q → lev p = nx9 m L p) (h4 : ∀ j, j < 8 → sta j = sum9 64 (fun j => L (64 * q + j)) j) : ∀ p, p < 32 * (q + 1) → cpF lev (q * 32) 32 sta p = nx9 m L p := by
  intro p hp
  unfold cpF
  rcases Nat.lt_or_ge p (32 * q) with z | z
  · rw [if_neg (by omega), h1 p z]
  · rw [if_pos (by omega)]
    unfold nx9
    have e1 : p / 32 = q := by omega
    have e2 : p % 32 = p - q * 32 := by omega
    rw [e1, e2, if_pos h, dig9_congr h4 (by omega)]
theorem nx9_2 {m q : Nat} {L lev : Nat → Int32} (h : ¬ 2 * q + 1 < m) (hq : 2 * q < m) (h1 : ∀ p, p < 32 * q → lev p = nx9 m L p) (h2 : ∀ p, 64 * q ≤ p → p < 32 * m → lev p = L p) : ∀ p, p < 32 * (q + 1) → va_cpy lev lev (2 * q * 32) (q * 32) 32 p = nx9 m L p := by
  intro p hp
  rcases Nat.lt_or_ge p (32 * q) with z | z
  · rw [pk_cpy_out (by omega), h1 p z]
  · rw [pk_cpy_in (by omega) (by omega), h2 _ (by omega) (by omega)]
    unfold nx9
    have e1 : p / 32 = q := by omega
    have e2 : p % 32 = p - q * 32 := by omega
    rw [e1, e2, if_neg h]
    congr 1
    omega
theorem cpF_fit {f S : Nat → Int32} {fr c : Nat} (h : sb_Fit f) : sb_Fit (cpF f fr c S) := by
  intro j
  unfold cpF
  split
  · exact pk_fb _
  · exact h j
set_option maxHeartbeats 4000000 in
set_option maxRecDepth 20000 in
theorem c_ChainInit {l : Launch} {g : cx_G} {w : wd_T} {a3 : Nat} {er ab : Nat → Nat} {by9 rD : Nat → Int32} (h0 : w 103 = some (a3, ob 0 [.null, .null, .null])) : Mt l g yX0_init cX0_init 1 none 4 6 6610 w [.ref a3] (fun v w' => v = none ∧ (∃ alr asu alv, ChAt g w' a3 alr asu alv 0 er ab by9 rD) ∧ ∀ t, t ≠ 103 → (t < 110 ∨ 115 ≤ t) → (t < 126 ∨ 128 ≤ t) → w' t = w t) := by
  refine mt_of RX0 "<init>" rfl rfl (by decide) (Nat.le_of_ble_eq_true rfl) [(0, .ref a3)] rfl ?_
  intro k hkl C hin
  subst hkl
  refine r_aload_n (q := 1) C 0 dX0_init_0 rfl rfl ?_
  refine r_objI (q := 4) C q78 q33 q34 (by decide) (Nat.le_of_ble_eq_true rfl) dX0_init_1 rfl ?_
  refine r_aload_n (q := 5) C 0 dX0_init_4 rfl rfl ?_
  refine r_new (q := 8) C koJx4a65c q79 q42 q5 126 [.int 0, .null, .int 0] (fun j hj => by rcases (show j = 0 ∨ j = 1 ∨ j = 2 by omega) with rfl | rfl | rfl <;> rfl) (by decide) (by decide) dX0_init_5 rfl (fun alr => ?_)
  refine r_dup (q := 9) C dX0_init_8 rfl rfl ?_
  refine r_callI (q := 12) (As := []) (st := [.ref alr, .ref a3]) C (c_ALinit (el := er) (tg := fun j => 2000 + 2 * j) wd_eq) q45 q80 q44 q5 rfl ⟨by decide, by decide⟩ (show (parseMethodDescriptor yJx4a65c_init_da8c8.desc).map (fun d => d.parameters.length) = some 0 by decide +kernel) (by decide) (by decide) (by decide) (by decide) (Nat.le_of_ble_eq_true rfl) rfl dX0_init_9 rfl ?_
  rintro v9 w2 ⟨rfl, hl, ef1⟩
  show V g k 1 w2 1 3 (kQ g k (fun v w' => v = none ∧ (∃ alr asu alv, ChAt g w' a3 alr asu alv 0 er ab by9 rD) ∧ ∀ t, t ≠ 103 → (t < 110 ∨ 115 ≤ t) → (t < 126 ∨ 128 ≤ t) → w' t = w t) 6 6610) 12 [(0, .ref a3)] [.ref alr, .ref a3]
  refine r_putF (q := 15) (t := 103) (w' := wd_set w2 103 a3 (ob 0 [.ref alr, .null, .null])) C koX0 ((ef1 103 (by omega)).trans ((wd_ne (by decide)).trans h0)) 0 (by decide) q102 rfl rfl hin rfl rfl rfl (Nat.le_of_ble_eq_true rfl) dX0_init_12 rfl rfl ?_
  refine r_aload_n (q := 16) C 0 dX0_init_15 rfl rfl ?_
  refine r_new (q := 19) C koX3 q81 q82 q7 110 [.null, .null, .null, .int 0] (fun j hj => by rcases (show j = 0 ∨ j = 1 ∨ j = 2 ∨ j = 3 by omega) with rfl | rfl | rfl | rfl <;> rfl) (by decide) (by decide) dX0_init_16 rfl (fun asu => ?_)
  refine r_dup (q := 20) C dX0_init_19 rfl rfl ?_
  refine r_callIN (q := 23) (As := []) (st := [.ref asu, .ref a3]) C (c_SumInit wd_eq) q85 q83 q84 q7 rfl ⟨by decide, by decide⟩ (show (parseMethodDescriptor yX3_init.desc).map (fun d => d.parameters.length) = some 0 by decide +kernel) (by decide) (by decide) (by decide) (by decide) (Nat.le_of_ble_eq_true rfl) rfl dX0_init_20 rfl ?_
  rintro v9 w5 ⟨rfl, ⟨am, aw, as9, s0, s1, s2, s3⟩, ef4⟩
  show V g k 1 w5 5 207 (kQ g k (fun v w' => v = none ∧ (∃ alr asu alv, ChAt g w' a3 alr asu alv 0 er ab by9 rD) ∧ ∀ t, t ≠ 103 → (t < 110 ∨ 115 ≤ t) → (t < 126 ∨ 128 ≤ t) → w' t = w t) 6 6610) 23 [(0, .ref a3)] [.ref asu, .ref a3]
  refine r_putF (q := 26) (t := 103) (w' := wd_set w5 103 a3 (ob 0 [.ref alr, .ref asu, .null])) C koX0 ((ef4 103 (by omega)).trans ((wd_ne (by decide)).trans wd_eq)) 1 (by decide) q103 rfl rfl hin rfl rfl rfl (Nat.le_of_ble_eq_true rfl) dX0_init_23 rfl rfl ?_
  refine r_aload_n (q := 27) C 0 dX0_init_26 rfl rfl ?_
  refine r_sipush (q := 30) C (nI 6400) dX0_init_27 (by decide) rfl ?_
  refine r_newb (q := 32) C 6400 rfl (by decide) q101 114 (by decide) (by decide) dX0_init_30 rfl (fun alv => ?_)
  refine r_putF (q := 35) (t := 103) (w' := wd_set (wd_set w5 114 alv (aB g 6400 (fun _ => 0))) 103 a3 (ob 0 [.ref alr, .ref asu, .ref alv])) C koX0 ((wd_ne (by decide)).trans wd_eq) 2 (by decide) q104 rfl rfl hin rfl rfl rfl (Nat.le_of_ble_eq_true rfl) dX0_init_32 rfl (wd_pp wd_ss (by decide)) ?_
  refine r_vret C rfl (by decide) (by decide) dX0_init_35 ⟨rfl, ⟨alr, asu, alv, wd_eq, hl.kept ?_ ?_ (fun j hj => absurd hj (Nat.not_lt_zero j)), fun r hr => absurd hr (Nat.not_lt_zero r), SmAt.kept ⟨_, _, _, _, _, _, _, _, s0, s1, s2, s3, fun _ _ => rfl⟩ (fun t a b => ?_), _, ((wd_ne (by decide)).trans wd_eq), sb_fit0⟩, fun t a b c => ?_⟩
  · rw [wd_ne (by decide), wd_ne (by decide), ef4 _ (by decide), wd_ne (by decide), wd_ne (by decide)]
  · rw [wd_ne (by decide), wd_ne (by decide), ef4 _ (by decide), wd_ne (by decide), wd_ne (by decide)]
  · rw [wd_ne (by omega), wd_ne (by omega)]
  · rw [wd_ne (by omega), wd_ne (by omega), ef4 _ (by omega), wd_ne (by omega), wd_ne (by omega), ef1 _ (by omega), wd_ne (by omega)]

theorem sb_fitC' {f g : Nat → Int32} {sp dp n : Nat} (hf : ∀ j, j < n → fits .byte (.int (f (sp + j))) = true) (hg : sb_Fit g) : sb_Fit (va_cpy f g sp dp n) := by
  intro j
  by_cases e : dp ≤ j ∧ j < dp + n
  · rw [pk_cpy_in e.1 e.2]
    exact hf _ (by omega)
  · rw [pk_cpy_out (by omega)]
    exact hg j
set_option maxHeartbeats 4000000 in
set_option maxRecDepth 20000 in
theorem c_gather {l : Launch} {g : cx_G} {w : wd_T} {a3 alr asu alv n : Nat} {er ab : Nat → Nat} {by9 rD : Nat → Int32} (hc : ChAt g w a3 alr asu alv n er ab by9 rD) (hn : n ≤ 150) {dy : Int32} (hfb : sb_Fit by9) : Mt l g yX0_gather cX0_gather 5 (some .int) 3 0 0 w [.ref a3, .int dy] (fun v w' => v = some (.int (nI (lfN rD dy n))) ∧ (∃ lev', w' 114 = some (alv, aB g 6400 lev') ∧ sb_Fit lev' ∧ ∀ p, p < 32 * lfN rD dy n → lev' p = lfL by9 rD dy n p) ∧ Fr w w' 114 115) := by
  refine mt_of RX0 "gather" rfl rfl (by decide) (Nat.le_of_ble_eq_true rfl) [(0, .ref a3), (1, .int dy)] rfl ?_
  intro k hkl C hin
  subst hkl
  obtain ⟨lev, hlev, hfit⟩ := hc.2.2.2.2
  have hle : lfN rD dy n ≤ n := lfN_le n
  refine r_iconst (q := 1) C (nI 0) dX0_gather_0 (by decide) rfl ?_
  refine r_istore_n (q := 2) (lv' := [(2, .int (nI 0)), (0, .ref a3), (1, .int dy)]) C dX0_gather_1 (by decide) rfl rfl ?_
  refine r_iconst (q := 3) C (nI 0) dX0_gather_2 (by decide) rfl ?_
  refine r_istore_n (q := 4) (lv' := [(3, .int (nI 0)), (2, .int (nI 0)), (0, .ref a3), (1, .int dy)]) C dX0_gather_3 (by decide) rfl rfl ?_
  refine r_sub (lv' := [(3, .int (nI 0)), (2, .int (nI 0)), (0, .ref a3), (1, .int dy)]) [0, 1, 2, 3] rfl ?_
  have loop : ∀ (r i : Nat) (lev1 : Nat → Int32) (w1 : wd_T), i + r = n → (w1 114 = some (alv, aB g 6400 lev1)) → (sb_Fit lev1) → (∀ p, p < 32 * lfN rD dy i → lev1 p = lfL by9 rD dy i p) → (Fr w w1 114 115) → V g k 5 w1 0 0 (kQ g k (fun v w' => v = some (.int (nI (lfN rD dy n))) ∧ (∃ lev', w' 114 = some (alv, aB g 6400 lev') ∧ sb_Fit lev' ∧ ∀ p, p < 32 * lfN rD dy n → lev' p = lfL by9 rD dy n p) ∧ Fr w w' 114 115) 0 0) 4 [(3, .int (nI i)), (2, .int (nI (lfN rD dy i))), (0, .ref a3), (1, .int dy)] [] := by
    intro r
    induction r with
    | zero =>
      intro i lev1 w1 hi q1 hfit1 hl1 hf1
      have hle1 : lfN rD dy i ≤ i := lfN_le i
      have l1 : LsAt g w1 126 alr n er (fun j => 2000 + 2 * j) := hc.2.1.keptR (hf1 _ (by decide)) (hf1 _ (by decide)) (fun j hj => hf1 _ (by omega))
      obtain ⟨m9, ae, hls⟩ := (l1).get
      refine r_iload_n (q := 5) C 0 dX0_gather_4 rfl rfl ?_
      refine r_aload_n (q := 6) C 2 dX0_gather_5 rfl rfl ?_
      refine r_get (q := 9) (t := 103) C koX0 ((hf1 103 (by decide)).trans hc.1) 0 (by decide) q102 rfl rfl dX0_gather_6 rfl ?_
      refine r_callV (q := 12) (t := 126) (As := []) (st := [.int (nI i)]) C koJx4a65c hls (c_ALsize l1) q175 q284 q173 q174 q5 rfl ⟨by decide, by decide⟩ (show (parseMethodDescriptor yJx4a65c_size_8abf5.desc).map (fun d => d.parameters.length) = some 0 by decide +kernel) (by decide) (by decide) (by decide) (by decide) (Nat.le_of_ble_eq_true rfl) rfl dX0_gather_9 rfl ?_
      rintro v9 w1 ⟨rfl, rfl⟩
      show V g k 5 w1 0 0 (kQ g k (fun v w' => v = some (.int (nI (lfN rD dy n))) ∧ (∃ lev', w' 114 = some (alv, aB g 6400 lev') ∧ sb_Fit lev' ∧ ∀ p, p < 32 * lfN rD dy n → lev' p = lfL by9 rD dy n p) ∧ Fr w w' 114 115) 0 0) 12 [(3, .int (nI i)), (2, .int (nI (lfN rD dy i))), (0, .ref a3), (1, .int dy)] [.int (nI n), .int (nI i)]
      refine r_icmp_ge_t (tgt := 73) C dX0_gather_12 (by decide) ((nI_leI (a := n) (b := i) (by omega) (by omega)).mpr (by omega)) ?_
      refine r_iload_n (q := 74) C 1 dX0_gather_73 rfl rfl ?_
      obtain rfl : i = n := by omega
      exact r_iret C rfl (by decide) (by decide) dX0_gather_74 ⟨rfl, ⟨lev1, q1, hfit1, hl1⟩, hf1⟩
    | succ r ih =>
      intro i lev1 w1 hi q1 hfit1 hl1 hf1
      have hle1 : lfN rD dy i ≤ i := lfN_le i
      have l1 : LsAt g w1 126 alr n er (fun j => 2000 + 2 * j) := hc.2.1.keptR (hf1 _ (by decide)) (hf1 _ (by decide)) (fun j hj => hf1 _ (by omega))
      obtain ⟨m9, ae, hls⟩ := (l1).get
      refine r_iload_n (q := 5) C 0 dX0_gather_4 rfl rfl ?_
      refine r_aload_n (q := 6) C 2 dX0_gather_5 rfl rfl ?_
      refine r_get (q := 9) (t := 103) C koX0 ((hf1 103 (by decide)).trans hc.1) 0 (by decide) q102 rfl rfl dX0_gather_6 rfl ?_
      refine r_callV (q := 12) (t := 126) (As := []) (st := [.int (nI i)]) C koJx4a65c hls (c_ALsize l1) q175 q284 q173 q174 q5 rfl ⟨by decide, by decide⟩ (show (parseMethodDescriptor yJx4a65c_size_8abf5.desc).map (fun d => d.parameters.length) = some 0 by decide +kernel) (by decide) (by decide) (by decide) (by decide) (Nat.le_of_ble_eq_true rfl) rfl dX0_gather_9 rfl ?_
      rintro v9 w3 ⟨rfl, rfl⟩
      show V g k 5 w1 0 0 (kQ g k (fun v w' => v = some (.int (nI (lfN rD dy n))) ∧ (∃ lev', w' 114 = some (alv, aB g 6400 lev') ∧ sb_Fit lev' ∧ ∀ p, p < 32 * lfN rD dy n → lev' p = lfL by9 rD dy n p) ∧ Fr w w' 114 115) 0 0) 12 [(3, .int (nI i)), (2, .int (nI (lfN rD dy i))), (0, .ref a3), (1, .int dy)] [.int (nI n), .int (nI i)]
      refine r_icmp_ge_f (q := 15) (tgt := 73) C dX0_gather_12 (by decide) rfl (fun z => absurd ((nI_leI (a := n) (b := i) (by omega) (by omega)).mp z) (by omega)) ?_
      refine r_aload_n (q := 16) C 2 dX0_gather_15 rfl rfl ?_
      refine r_get (q := 19) (t := 103) C koX0 ((hf1 103 (by decide)).trans hc.1) 0 (by decide) q102 rfl rfl dX0_gather_16 rfl ?_
      refine r_iload_n (q := 20) C 0 dX0_gather_19 rfl rfl ?_
      refine r_callV (q := 23) (t := 126) (As := [.int (nI i)]) (st := []) C koJx4a65c hls (c_ALget l1 (by omega) (by omega)) q179 q342 q177 q178 q5 rfl ⟨by decide, by decide⟩ (show (parseMethodDescriptor yJx4a65c_get_915e3.desc).map (fun d => d.parameters.length) = some 1 by decide +kernel) (by decide) (by decide) (by decide) (by decide) (Nat.le_of_ble_eq_true rfl) rfl dX0_gather_20 rfl ?_
      rintro v9 w4 ⟨rfl, rfl⟩
      show V g k 5 w1 0 0 (kQ g k (fun v w' => v = some (.int (nI (lfN rD dy n))) ∧ (∃ lev', w' 114 = some (alv, aB g 6400 lev') ∧ sb_Fit lev' ∧ ∀ p, p < 32 * lfN rD dy n → lev' p = lfL by9 rD dy n p) ∧ Fr w w' 114 115) 0 0) 23 [(3, .int (nI i)), (2, .int (nI (lfN rD dy i))), (0, .ref a3), (1, .int dy)] [.ref (er i)]
      obtain ⟨⟨wr, hr0⟩, fb, hr1, hr2⟩ := hc.2.2.1 i (by omega)
      refine r_castS (q := 26) (t := (2000 + 2 * i)) C koX2 ((hf1 _ (by omega)).trans hr0) q343 rfl dX0_gather_23 rfl ?_
      refine r_astore (q := 28) (lv' := [(4, .ref (er i)), (3, .int (nI i)), (2, .int (nI (lfN rD dy i))), (0, .ref a3), (1, .int dy)]) C dX0_gather_26 (by decide) rfl rfl ?_
      refine r_aload (q := 30) C 0 dX0_gather_28 rfl rfl ?_
      refine r_getN (q := 33) (t := (2000 + 2 * i)) C koX2 ((hf1 _ (by omega)).trans hr0) 1 (by decide) q321 rfl rfl dX0_gather_30 rfl ?_
      refine r_iload_n (q := 34) C 4 dX0_gather_33 rfl rfl ?_
      refine r_icmp_ne (q := 37) (tgt := 67) C dX0_gather_34 (by decide) rfl (fun hc5 => ?_) (fun hc5 => ?_)
      · refine r_iinc (q := 70) (v := nI (i + 1)) (lv' := [(3, .int (nI (i + 1))), (4, .ref (er i)), (2, .int (nI (lfN rD dy i))), (0, .ref a3), (1, .int dy)]) C 1 dX0_gather_67 rfl (nI_1 i) (by decide) rfl rfl ?_
        refine r_goto (tgt := 4) C dX0_gather_70 (by decide) ?_
        refine r_sub (lv' := [(3, .int (nI (i + 1))), (2, .int (nI (lfN rD dy i))), (0, .ref a3), (1, .int dy)]) [0, 2, 3, 4] rfl ?_
        have eN : lfN rD dy (i + 1) = lfN rD dy i := lfN_n hc5
        rw [← eN]
        exact ih (i + 1) lev1 w1 (by omega) q1 hfit1 (by rw [eN, lfL_n hc5]; exact hl1) hf1
      · refine r_iload_n (q := 38) C 2 dX0_gather_37 rfl rfl ?_
        refine r_sipush (q := 41) C (nI 200) dX0_gather_38 (by decide) rfl ?_
        refine r_icmp_ge_f (q := 44) (tgt := 67) C dX0_gather_41 (by decide) rfl (fun z => absurd ((nI_leI (a := 200) (b := (lfN rD dy i)) (by omega) (by omega)).mp z) (by omega)) ?_
        refine r_aload (q := 46) C 0 dX0_gather_44 rfl rfl ?_
        refine r_getN (q := 49) (t := (2000 + 2 * i)) C koX2 ((hf1 _ (by omega)).trans hr0) 0 (by decide) q319 rfl rfl dX0_gather_46 rfl ?_
        refine r_bipush (q := 51) C (nI 41) dX0_gather_49 (by decide) rfl ?_
        refine r_aload_n (q := 52) C 3 dX0_gather_51 rfl rfl ?_
        refine r_get (q := 55) (t := 103) C koX0 ((hf1 103 (by decide)).trans hc.1) 2 (by decide) q104 rfl rfl dX0_gather_52 rfl ?_
        refine r_iload_n (q := 56) C 2 dX0_gather_55 rfl rfl ?_
        refine r_bipush (q := 58) C (nI 32) dX0_gather_56 (by decide) rfl ?_
        refine r_imul (q := 59) C dX0_gather_58 rfl ?_
        refine r_ti (show ((nI (lfN rD dy i)) * (nI 32) : Int32) = nI ((lfN rD dy i) * 32) from pk_mul (lfN rD dy i) 32) ?_
        refine r_bipush (q := 61) C (nI 32) dX0_gather_59 (by decide) rfl ?_
        refine r_copyb (q := 64) (t0 := (2001 + 2 * i)) (t1 := 114) (w' := wd_set w1 114 alv (aB g 6400 (va_cpy fb lev1 41 (lfN rD dy i * 32) 32))) C ((hf1 _ (by omega)).trans hr1) q1 q596 q264 q263 q16 41 (lfN rD dy i * 32) 32 rfl rfl rfl (by omega) (by omega) (by decide) (by decide) (fun j hj => by rw [hr2 _ (by omega)]; exact hfb _) (by decide) (Nat.le_of_ble_eq_true rfl) dX0_gather_61 rfl rfl ?_
        refine r_iinc (q := 67) (v := nI (lfN rD dy i + 1)) (lv' := [(2, .int (nI (lfN rD dy i + 1))), (4, .ref (er i)), (3, .int (nI i)), (0, .ref a3), (1, .int dy)]) C 2 dX0_gather_64 rfl (nI_1 (lfN rD dy i)) (by decide) rfl rfl ?_
        refine r_iinc (q := 70) (v := nI (i + 1)) (lv' := [(3, .int (nI (i + 1))), (2, .int (nI (lfN rD dy i + 1))), (4, .ref (er i)), (0, .ref a3), (1, .int dy)]) C 2 dX0_gather_67 rfl (nI_1 i) (by decide) rfl rfl ?_
        refine r_goto (tgt := 4) C dX0_gather_70 (by decide) ?_
        refine r_sub (lv' := [(3, .int (nI (i + 1))), (2, .int (nI (lfN rD dy i + 1))), (0, .ref a3), (1, .int dy)]) [0, 1, 3, 4] rfl ?_
        have eN : lfN rD dy (i + 1) = lfN rD dy i + 1 := lfN_y hc5
        rw [← eN]
        exact ih (i + 1) _ _ (by omega) wd_eq (sb_fitC' (fun j hj => by rw [hr2 _ (by omega)]; exact hfb _) hfit1) (lfL_cpy hc5 hr2 hl1) (hf1.trans (Fr.set (by decide) (by decide)))
  exact loop n 0 lev w (by omega) hlev hfit (fun p hp => absurd hp (Nat.not_lt_zero p)) Fr.rfl'

set_option maxHeartbeats 4000000 in
set_option maxRecDepth 20000 in
theorem c_pairUp {l : Launch} {g : cx_G} {w : wd_T} {a3 alr asu alv m : Nat} {lev L : Nat → Int32} (h3 : w 103 = some (a3, ob 0 [.ref alr, .ref asu, .ref alv])) (hs : SmAt g w asu) (hl : w 114 = some (alv, aB g 6400 lev)) (hfit : sb_Fit lev) (hL : ∀ p, p < 32 * m → lev p = L p) (hm : m ≤ 200) : Mt l g yX0_pairUp cX0_pairUp 5 none 4 0 0 w [.ref a3, .int (nI m)] (fun v w' => v = none ∧ (∃ lev', w' 114 = some (alv, aB g 6400 lev') ∧ sb_Fit lev' ∧ ∀ p, p < 32 * ((m + 1) / 2) → lev' p = nx9 m L p) ∧ SmAt g w' asu ∧ Fr w w' 110 115) := by
  refine mt_of RX0 "pairUp" rfl rfl (by decide) (Nat.le_of_ble_eq_true rfl) [(0, .ref a3), (1, .int (nI m))] rfl ?_
  intro k hkl C hin
  subst hkl
  refine r_iconst (q := 1) C (nI 0) dX0_pairUp_0 (by decide) rfl ?_
  refine r_istore_n (q := 2) (lv' := [(2, .int (nI 0)), (0, .ref a3), (1, .int (nI m))]) C dX0_pairUp_1 (by decide) rfl rfl ?_
  refine r_sub (lv' := [(2, .int (nI 0)), (0, .ref a3), (1, .int (nI m))]) [0, 1, 2] rfl ?_
  have loop : ∀ (r i : Nat) (lev1 : Nat → Int32) (w1 : wd_T), i + r = (m + 1) / 2 → (w1 114 = some (alv, aB g 6400 lev1)) → (sb_Fit lev1) → (∀ p, p < 32 * i → lev1 p = nx9 m L p) → (∀ p, 64 * i ≤ p → p < 32 * m → lev1 p = L p) → (SmAt g w1 asu) → (Fr w w1 110 115) → V g k 5 w1 0 0 (kQ g k (fun v w' => v = none ∧ (∃ lev', w' 114 = some (alv, aB g 6400 lev') ∧ sb_Fit lev' ∧ ∀ p, p < 32 * ((m + 1) / 2) → lev' p = nx9 m L p) ∧ SmAt g w' asu ∧ Fr w w' 110 115) 0 0) 2 [(2, .int (nI (2 * i))), (0, .ref a3), (1, .int (nI m))] [] := by
    intro r
    induction r with
    | zero =>
      intro i lev1 w1 hi q1 hfit1 ha hb hs1 hf1
      refine r_iload_n (q := 3) C 0 dX0_pairUp_2 rfl rfl ?_
      refine r_iload_n (q := 4) C 2 dX0_pairUp_3 rfl rfl ?_
      refine r_icmp_ge_t (tgt := 93) C dX0_pairUp_4 (by decide) ((nI_leI (a := m) (b := (2 * i)) (by omega) (by omega)).mpr (by omega)) ?_
      obtain rfl : i = (m + 1) / 2 := by omega
      exact r_vret C rfl (by decide) (by decide) dX0_pairUp_93 ⟨rfl, ⟨lev1, q1, hfit1, ha⟩, hs1, hf1⟩
    | succ r ih =>
      intro i lev1 w1 hi q1 hfit1 ha hb hs1 hf1
      refine r_iload_n (q := 3) C 0 dX0_pairUp_2 rfl rfl ?_
      refine r_iload_n (q := 4) C 2 dX0_pairUp_3 rfl rfl ?_
      refine r_icmp_ge_f (q := 7) (tgt := 93) C dX0_pairUp_4 (by decide) rfl (fun z => absurd ((nI_leI (a := m) (b := (2 * i)) (by omega) (by omega)).mp z) (by omega)) ?_
      refine r_iload_n (q := 8) C 0 dX0_pairUp_7 rfl rfl ?_
      refine r_bipush (q := 10) C (nI 32) dX0_pairUp_8 (by decide) rfl ?_
      refine r_imul (q := 11) C dX0_pairUp_10 rfl ?_
      refine r_ti (show ((nI (2 * i)) * (nI 32) : Int32) = nI ((2 * i) * 32) from pk_mul (2 * i) 32) ?_
      refine r_istore_n (q := 12) (lv' := [(3, .int (nI ((2 * i) * 32))), (2, .int (nI (2 * i))), (0, .ref a3), (1, .int (nI m))]) C dX0_pairUp_11 (by decide) rfl rfl ?_
      refine r_iload_n (q := 13) C 1 dX0_pairUp_12 rfl rfl ?_
      refine r_iconst (q := 14) C (nI 2) dX0_pairUp_13 (by decide) rfl ?_
      refine r_idiv (q := 15) C dX0_pairUp_14 (by decide) rfl ?_
      refine r_ti (show ((nI (2 * i)) / (nI 2) : Int32) = nI ((2 * i) / 2) from pk_div (by omega) (by omega) (by omega)) ?_
      refine r_ti (show (nI ((2 * i) / 2) : Int32) = nI i from by rw [show 2 * i / 2 = i by omega]) ?_
      refine r_bipush (q := 17) C (nI 32) dX0_pairUp_15 (by decide) rfl ?_
      refine r_imul (q := 18) C dX0_pairUp_17 rfl ?_
      refine r_ti (show ((nI i) * (nI 32) : Int32) = nI (i * 32) from pk_mul i 32) ?_
      refine r_istore (q := 20) (lv' := [(4, .int (nI (i * 32))), (3, .int (nI ((2 * i) * 32))), (2, .int (nI (2 * i))), (0, .ref a3), (1, .int (nI m))]) C dX0_pairUp_18 (by decide) rfl rfl ?_
      refine r_iload_n (q := 21) C 2 dX0_pairUp_20 rfl rfl ?_
      refine r_iconst (q := 22) C (nI 1) dX0_pairUp_21 (by decide) rfl ?_
      refine r_iadd (q := 23) C dX0_pairUp_22 rfl ?_
      refine r_ti (show ((nI (2 * i)) + (nI 1) : Int32) = nI (2 * i + 1) from nI_add (2 * i) 1) ?_
      refine r_iload_n (q := 24) C 4 dX0_pairUp_23 rfl rfl ?_
      refine r_icmp_ge (q := 27) (tgt := 71) C dX0_pairUp_24 (by decide) rfl (fun hc2 => ?_) (fun hc2 => ?_)
      · have hc2 : m ≤ (2 * i + 1) := (nI_leI (a := m) (b := (2 * i + 1)) (by omega) (by omega)).mp hc2
        refine r_aload_n (q := 72) C 3 dX0_pairUp_71 rfl rfl ?_
        refine r_get (q := 75) (t := 103) C koX0 ((hf1 103 (by decide)).trans h3) 2 (by decide) q104 rfl rfl dX0_pairUp_72 rfl ?_
        refine r_iload_n (q := 76) C 1 dX0_pairUp_75 rfl rfl ?_
        refine r_aload_n (q := 77) C 3 dX0_pairUp_76 rfl rfl ?_
        refine r_get (q := 80) (t := 103) C koX0 ((hf1 103 (by decide)).trans h3) 2 (by decide) q104 rfl rfl dX0_pairUp_77 rfl ?_
        refine r_iload (q := 82) C 0 dX0_pairUp_80 rfl rfl ?_
        refine r_bipush (q := 84) C (nI 32) dX0_pairUp_82 (by decide) rfl ?_
        refine r_copyb (q := 87) (t0 := 114) (t1 := 114) (w' := wd_set w1 114 alv (aB g 6400 (va_cpy lev1 lev1 (2 * i * 32) (i * 32) 32))) C q1 q1 q596 q264 q263 q16 (2 * i * 32) (i * 32) 32 rfl rfl rfl (by omega) (by omega) (by decide) (by decide) (fun j hj => hfit1 _) (by decide) (Nat.le_of_ble_eq_true rfl) dX0_pairUp_84 rfl rfl ?_
        refine r_iinc (q := 90) (v := nI (2 * (i + 1))) (lv' := [(2, .int (nI (2 * (i + 1)))), (4, .int (nI (i * 32))), (3, .int (nI ((2 * i) * 32))), (0, .ref a3), (1, .int (nI m))]) C 2 dX0_pairUp_87 rfl (by rw [show 2 * (i + 1) = 2 * i + 2 by omega]; exact nI_add (2 * i) 2) (by decide) rfl rfl ?_
        refine r_goto (tgt := 2) C dX0_pairUp_90 (by decide) ?_
        refine r_sub (lv' := [(2, .int (nI (2 * (i + 1)))), (0, .ref a3), (1, .int (nI m))]) [0, 3, 4] rfl ?_
        exact ih (i + 1) _ _ (by omega) wd_eq (sb_fitC hfit1 hfit1) (nx9_2 (by omega) (by omega) ha hb) (fun p a b => by rw [pk_cpy_out (by omega)]; exact hb p (by omega) b) (hs1.kept (fun t a b => wd_ne (by omega))) (hf1.trans (Fr.set (by decide) (by decide)))
      · have hc2 : ¬ m ≤ (2 * i + 1) := fun z => hc2 ((nI_leI (a := m) (b := (2 * i + 1)) (by omega) (by omega)).mpr z)
        refine r_aload_n (q := 28) C 3 dX0_pairUp_27 rfl rfl ?_
        refine r_get (q := 31) (t := 103) C koX0 ((hf1 103 (by decide)).trans h3) 1 (by decide) q103 rfl rfl dX0_pairUp_28 rfl ?_
        obtain ⟨S9, n9, am, aw, as9, msg, wds, sta, s0, s1, s2, s3, s4⟩ := hs1
        refine r_callV (q := 34) (t := 110) (As := []) (st := []) C koX3 s0 (c_start s0) q351 q348 q349 q350 q7 rfl ⟨by decide, by decide⟩ (show (parseMethodDescriptor yX3_start.desc).map (fun d => d.parameters.length) = some 0 by decide +kernel) (by decide) (by decide) (by decide) (by decide) (Nat.le_of_ble_eq_true rfl) rfl dX0_pairUp_31 rfl ?_
        rintro v9 w6 ⟨rfl, e0, ef5⟩
        show V g k 5 w6 0 0 (kQ g k (fun v w' => v = none ∧ (∃ lev', w' 114 = some (alv, aB g 6400 lev') ∧ sb_Fit lev' ∧ ∀ p, p < 32 * ((m + 1) / 2) → lev' p = nx9 m L p) ∧ SmAt g w' asu ∧ Fr w w' 110 115) 0 0) 34 [(4, .int (nI (i * 32))), (3, .int (nI ((2 * i) * 32))), (2, .int (nI (2 * i))), (0, .ref a3), (1, .int (nI m))] []
        refine r_aload_n (q := 35) C 3 dX0_pairUp_34 rfl rfl ?_
        refine r_get (q := 38) (t := 103) C koX0 ((ef5 103 (by omega)).trans ((hf1 103 (by decide)).trans h3)) 1 (by decide) q103 rfl rfl dX0_pairUp_35 rfl ?_
        refine r_aload_n (q := 39) C 3 dX0_pairUp_38 rfl rfl ?_
        refine r_get (q := 42) (t := 103) C koX0 ((ef5 103 (by omega)).trans ((hf1 103 (by decide)).trans h3)) 2 (by decide) q104 rfl rfl dX0_pairUp_39 rfl ?_
        refine r_iload_n (q := 43) C 1 dX0_pairUp_42 rfl rfl ?_
        refine r_bipush (q := 45) C (nI 64) dX0_pairUp_43 (by decide) rfl ?_
        refine r_callV (q := 48) (t := 110) (As := [.ref alv, .int (nI ((2 * i) * 32)), .int (nI 64)]) (st := []) C koX3 e0 (c_add e0 ((ef5 111 (by omega)).trans s1) ((ef5 114 (by omega)).trans q1) (by omega) (by decide) (by omega) (by decide)) q363 q360 q361 q362 q7 rfl ⟨by decide, by decide⟩ (show (parseMethodDescriptor yX3_add.desc).map (fun d => d.parameters.length) = some 3 by decide +kernel) (by decide) (by decide) (by decide) (by decide) (Nat.le_of_ble_eq_true rfl) rfl dX0_pairUp_45 rfl ?_
        rintro v9 w9 ⟨rfl, e0, e1, ef8⟩
        show V g k 5 w9 0 0 (kQ g k (fun v w' => v = none ∧ (∃ lev', w' 114 = some (alv, aB g 6400 lev') ∧ sb_Fit lev' ∧ ∀ p, p < 32 * ((m + 1) / 2) → lev' p = nx9 m L p) ∧ SmAt g w' asu ∧ Fr w w' 110 115) 0 0) 48 [(4, .int (nI (i * 32))), (3, .int (nI ((2 * i) * 32))), (2, .int (nI (2 * i))), (0, .ref a3), (1, .int (nI m))] []
        refine r_aload_n (q := 49) C 3 dX0_pairUp_48 rfl rfl ?_
        refine r_get (q := 52) (t := 103) C koX0 ((ef8 103 (by omega)).trans ((ef5 103 (by omega)).trans ((hf1 103 (by decide)).trans h3))) 1 (by decide) q103 rfl rfl dX0_pairUp_49 rfl ?_
        have hmm : ∀ j, j < 64 → adF msg 0 64 (fun j => lev1 (2 * i * 32 + j)) j = ((fun j => L (64 * i + j)) j).toInt8.toInt32 := by
          intro j hj
          unfold adF
          rw [if_pos (by omega)]
          show (lev1 (2 * i * 32 + (j - 0))).toInt8.toInt32 = (L (64 * i + j)).toInt8.toInt32
          rw [hb _ (by omega) (by omega), show 2 * i * 32 + (j - 0) = 64 * i + j by omega]
        refine r_callV (q := 55) (t := 110) (As := []) (st := []) C koX3 e0 (c_finish (n := 64) (f9 := fun j => L (64 * i + j)) e0 e1 ((ef8 112 (by omega)).trans ((ef5 112 (by omega)).trans s2)) ((ef8 113 (by omega)).trans ((ef5 113 (by omega)).trans s3)) (by decide) (by decide) hmm) q367 q364 q365 q366 q7 rfl ⟨by decide, by decide⟩ (show (parseMethodDescriptor yX3_finish.desc).map (fun d => d.parameters.length) = some 0 by decide +kernel) (by decide) (by decide) (by decide) (by decide) (Nat.le_of_ble_eq_true rfl) rfl dX0_pairUp_52 rfl ?_
        rintro v9 w12 ⟨rfl, ⟨msg9, wds9, sta9, e0, e1, e2, e3, e4⟩, ef11⟩
        show V g k 5 w12 0 0 (kQ g k (fun v w' => v = none ∧ (∃ lev', w' 114 = some (alv, aB g 6400 lev') ∧ sb_Fit lev' ∧ ∀ p, p < 32 * ((m + 1) / 2) → lev' p = nx9 m L p) ∧ SmAt g w' asu ∧ Fr w w' 110 115) 0 0) 55 [(4, .int (nI (i * 32))), (3, .int (nI ((2 * i) * 32))), (2, .int (nI (2 * i))), (0, .ref a3), (1, .int (nI m))] []
        refine r_aload_n (q := 56) C 3 dX0_pairUp_55 rfl rfl ?_
        refine r_get (q := 59) (t := 103) C koX0 ((ef11 103 (by omega)).trans ((ef8 103 (by omega)).trans ((ef5 103 (by omega)).trans ((hf1 103 (by decide)).trans h3)))) 1 (by decide) q103 rfl rfl dX0_pairUp_56 rfl ?_
        refine r_aload_n (q := 60) C 3 dX0_pairUp_59 rfl rfl ?_
        refine r_get (q := 63) (t := 103) C koX0 ((ef11 103 (by omega)).trans ((ef8 103 (by omega)).trans ((ef5 103 (by omega)).trans ((hf1 103 (by decide)).trans h3)))) 2 (by decide) q104 rfl rfl dX0_pairUp_60 rfl ?_
        refine r_iload (q := 65) C 0 dX0_pairUp_63 rfl rfl ?_
        refine r_callV (q := 68) (t := 110) (As := [.ref alv, .int (nI (i * 32))]) (st := []) C koX3 e0 (c_copyTo e0 e3 ((ef11 114 (by omega)).trans ((ef8 114 (by omega)).trans ((ef5 114 (by omega)).trans q1))) (by decide) (by omega) (by decide)) q394 q391 q392 q393 q7 rfl ⟨by decide, by decide⟩ (show (parseMethodDescriptor yX3_copyTo.desc).map (fun d => d.parameters.length) = some 2 by decide +kernel) (by decide) (by decide) (by decide) (by decide) (Nat.le_of_ble_eq_true rfl) rfl dX0_pairUp_65 rfl ?_
        rintro v9 w15 ⟨rfl, b6, ef14⟩
        show V g k 5 w15 0 0 (kQ g k (fun v w' => v = none ∧ (∃ lev', w' 114 = some (alv, aB g 6400 lev') ∧ sb_Fit lev' ∧ ∀ p, p < 32 * ((m + 1) / 2) → lev' p = nx9 m L p) ∧ SmAt g w' asu ∧ Fr w w' 110 115) 0 0) 68 [(4, .int (nI (i * 32))), (3, .int (nI ((2 * i) * 32))), (2, .int (nI (2 * i))), (0, .ref a3), (1, .int (nI m))] []
        refine r_goto (tgt := 87) C dX0_pairUp_68 (by decide) ?_
        refine r_iinc (q := 90) (v := nI (2 * (i + 1))) (lv' := [(2, .int (nI (2 * (i + 1)))), (4, .int (nI (i * 32))), (3, .int (nI ((2 * i) * 32))), (0, .ref a3), (1, .int (nI m))]) C 2 dX0_pairUp_87 rfl (by rw [show 2 * (i + 1) = 2 * i + 2 by omega]; exact nI_add (2 * i) 2) (by decide) rfl rfl ?_
        refine r_goto (tgt := 2) C dX0_pairUp_90 (by decide) ?_
        refine r_sub (lv' := [(2, .int (nI (2 * (i + 1)))), (0, .ref a3), (1, .int (nI m))]) [0, 3, 4] rfl ?_
        exact ih (i + 1) _ _ (by omega) b6 (cpF_fit hfit1) (nx9_1 (by omega) ha e4) (fun p a b => by unfold cpF; rw [if_neg (by omega)]; exact hb p (by omega) b) (SmAt.kept ⟨_, _, _, _, _, _, _, _, e0, e1, e2, e3, e4⟩ (fun t a b => ef14 t (by omega))) ((((hf1.trans (ef5.mono (by decide) (by decide))).trans (ef8.mono (by decide) (by decide))).trans (ef11.mono (by decide) (by decide))).trans (ef14.mono (by decide) (by decide)))
  exact loop ((m + 1) / 2) 0 lev w (by omega) hl hfit (fun p hp => absurd hp (Nat.not_lt_zero p)) (fun p _ hp => hL p hp) hs Fr.rfl'

theorem ChAt.frL {g : cx_G} {w w' : wd_T} {a3 alr asu alv n : Nat} {er ab : Nat → Nat} {by9 rD lev' : Nat → Int32} (h : ChAt g w a3 alr asu alv n er ab by9 rD) (hf : Fr w w' 110 115) (hs : SmAt g w' asu) (hl : w' 114 = some (alv, aB g 6400 lev')) (hfit : sb_Fit lev') : ChAt g w' a3 alr asu alv n er ab by9 rD :=
  ⟨(hf _ (by decide)).trans h.1, h.2.1.keptR (hf _ (by decide)) (hf _ (by decide)) (fun j hj => hf _ (by omega)), h.2.2.1.kept (fun t a b => hf t (by omega)), hs, lev', hl, hfit⟩
set_option maxHeartbeats 4000000 in
set_option maxRecDepth 20000 in
theorem c_root_n {l : Launch} {g : cx_G} {w : wd_T} {a3 alr asu alv n : Nat} {er ab : Nat → Nat} {by9 rD : Nat → Int32} (hc : ChAt g w a3 alr asu alv n er ab by9 rD) (hn : n ≤ 150) {dy x : Int32} (hx : x < 0 ∨ nI 32 ≤ x) : Mt l g yX0_rootByte cX0_rootByte 5 (some .int) 5 0 0 w [.ref a3, .int dy, .int x] (fun v w' => v = some (.int (-1)) ∧ ChAt g w' a3 alr asu alv n er ab by9 rD ∧ Fr w w' 110 115) := by
  refine mt_of RX0 "rootByte" rfl rfl (by decide) (Nat.le_of_ble_eq_true rfl) [(0, .ref a3), (1, .int dy), (2, .int x)] rfl ?_
  intro k hkl C hin
  subst hkl
  refine r_iload_n (q := 1) C 2 dX0_rootByte_0 rfl rfl ?_
  refine r_if_lt (q := 4) (tgt := 10) C dX0_rootByte_1 (by decide) rfl (fun hc1 => ?_) (fun hc1 => ?_)
  · refine r_iconst (q := 11) C ((-1)) dX0_rootByte_10 (by decide) rfl ?_
    exact r_iret C rfl (by decide) (by decide) dX0_rootByte_11 ⟨rfl, hc, Fr.rfl'⟩
  · refine r_iload_n (q := 5) C 2 dX0_rootByte_4 rfl rfl ?_
    refine r_bipush (q := 7) C (nI 32) dX0_rootByte_5 (by decide) rfl ?_
    refine r_icmp_lt_f (q := 10) (tgt := 12) C dX0_rootByte_7 (by decide) rfl (fun zz => by rcases hx with z | z; exact absurd z hc1; exact absurd zz (Int32.not_lt.mpr z)) ?_
    refine r_iconst (q := 11) C ((-1)) dX0_rootByte_10 (by decide) rfl ?_
    exact r_iret C rfl (by decide) (by decide) dX0_rootByte_11 ⟨rfl, hc, Fr.rfl'⟩

set_option maxHeartbeats 4000000 in
set_option maxRecDepth 20000 in
theorem c_root_y {l : Launch} {g : cx_G} {w : wd_T} {a3 alr asu alv n : Nat} {er ab : Nat → Nat} {by9 rD : Nat → Int32} (hc : ChAt g w a3 alr asu alv n er ab by9 rD) (hn : n ≤ 150) {dy : Int32} (hfb : sb_Fit by9) {i : Nat} (hi : i < 32) : Mt l g yX0_rootByte cX0_rootByte 5 (some .int) 5 0 0 w [.ref a3, .int dy, .int (nI i)] (fun v w' => v = some (.int (if lfN rD dy n = 0 then -1 else rt9 (lfN rD dy n) (lfN rD dy n) (lfL by9 rD dy n) i &&& nI 255)) ∧ ChAt g w' a3 alr asu alv n er ab by9 rD ∧ Fr w w' 110 115) := by
  refine mt_of RX0 "rootByte" rfl rfl (by decide) (Nat.le_of_ble_eq_true rfl) [(0, .ref a3), (1, .int dy), (2, .int (nI i))] rfl ?_
  intro k hkl C hin
  subst hkl
  refine r_iload_n (q := 1) C 2 dX0_rootByte_0 rfl rfl ?_
  refine r_if_lt_f (q := 4) (tgt := 10) C dX0_rootByte_1 (by decide) rfl (nI_pos (by omega)) ?_
  refine r_iload_n (q := 5) C 2 dX0_rootByte_4 rfl rfl ?_
  refine r_bipush (q := 7) C (nI 32) dX0_rootByte_5 (by decide) rfl ?_
  refine r_icmp_lt_t (tgt := 12) C dX0_rootByte_7 (by decide) ((nI_ltI (a := i) (b := 32) (by omega) (by omega)).mpr (by omega)) ?_
  refine r_aload_n (q := 13) C 0 dX0_rootByte_12 rfl rfl ?_
  refine r_iload_n (q := 14) C 1 dX0_rootByte_13 rfl rfl ?_
  refine r_callV (q := 17) (t := 103) (As := [.int dy]) (st := []) C koX0 hc.1 (c_gather hc hn hfb) q595 q592 q594 qp14 q6 rfl ⟨by decide, by decide⟩ (show (parseMethodDescriptor yX0_gather.desc).map (fun d => d.parameters.length) = some 1 by decide +kernel) (by decide) (by decide) (by decide) (by decide) (Nat.le_of_ble_eq_true rfl) rfl dX0_rootByte_14 rfl ?_
  rintro v9 w5 ⟨rfl, ⟨lev5, e5, hfit5, hl5⟩, ef5⟩
  have hle : lfN rD dy n ≤ n := lfN_le n
  have hs5 : SmAt g w5 asu := hc.2.2.2.1.kept (fun t a b => ef5 t (by omega))
  show V g k 5 w5 0 0 (kQ g k (fun v w' => v = some (.int (if lfN rD dy n = 0 then -1 else rt9 (lfN rD dy n) (lfN rD dy n) (lfL by9 rD dy n) i &&& nI 255)) ∧ ChAt g w' a3 alr asu alv n er ab by9 rD ∧ Fr w w' 110 115) 0 0) 17 [(0, .ref a3), (1, .int dy), (2, .int (nI i))] [.int (nI (lfN rD dy n))]
  refine r_istore_n (q := 18) (lv' := [(3, .int (nI (lfN rD dy n))), (0, .ref a3), (1, .int dy), (2, .int (nI i))]) C dX0_rootByte_17 (by decide) rfl rfl ?_
  refine r_iload_n (q := 19) C 0 dX0_rootByte_18 rfl rfl ?_
  refine r_if_ne (q := 22) (tgt := 24) C dX0_rootByte_19 (by decide) rfl (fun hc2 => ?_) (fun hc2 => ?_)
  · have hc2 : ¬ (lfN rD dy n) = 0 := fun z => hc2 ((nI_eq (a := (lfN rD dy n)) (b := 0) (by omega) (by omega)).mpr z)
    refine r_iload_n (q := 25) C 0 dX0_rootByte_24 rfl rfl ?_
    refine r_istore (q := 27) (lv' := [(4, .int (nI (lfN rD dy n))), (3, .int (nI (lfN rD dy n))), (0, .ref a3), (1, .int dy), (2, .int (nI i))]) C dX0_rootByte_25 (by decide) rfl rfl ?_
    refine r_sub (lv' := [(4, .int (nI (lfN rD dy n))), (0, .ref a3), (2, .int (nI i))]) [0, 2, 4] rfl ?_
    have loop : ∀ (r m : Nat) (lev1 L1 : Nat → Int32) (w1 : wd_T), m ≤ r + 1 → (w1 114 = some (alv, aB g 6400 lev1)) → (sb_Fit lev1) → (∀ p, p < 32 * m → lev1 p = L1 p) → (rt9 (lfN rD dy n) (lfN rD dy n) (lfL by9 rD dy n) i = rt9 r m L1 i) → (1 ≤ m) → (m ≤ 200) → (SmAt g w1 asu) → (Fr w w1 110 115) → V g k 5 w1 0 0 (kQ g k (fun v w' => v = some (.int (if lfN rD dy n = 0 then -1 else rt9 (lfN rD dy n) (lfN rD dy n) (lfL by9 rD dy n) i &&& nI 255)) ∧ ChAt g w' a3 alr asu alv n er ab by9 rD ∧ Fr w w' 110 115) 0 0) 27 [(4, .int (nI m)), (0, .ref a3), (2, .int (nI i))] [] := by
      intro r
      induction r with
      | zero =>
        intro m lev1 L1 w1 hi q1 hfit1 hl1 hA hm1 hm2 hs1 hf1
        refine r_iload (q := 29) C 0 dX0_rootByte_27 rfl rfl ?_
        refine r_iconst (q := 30) C (nI 1) dX0_rootByte_29 (by decide) rfl ?_
        refine r_icmp_le_t (tgt := 50) C dX0_rootByte_30 (by decide) ((nI_leI (a := m) (b := 1) (by omega) (by omega)).mpr (by omega)) ?_
        refine r_aload_n (q := 51) C 1 dX0_rootByte_50 rfl rfl ?_
        refine r_get (q := 54) (t := 103) C koX0 ((hf1 103 (by decide)).trans hc.1) 2 (by decide) q104 rfl rfl dX0_rootByte_51 rfl ?_
        refine r_iload_n (q := 55) C 2 dX0_rootByte_54 rfl rfl ?_
        refine r_bald (q := 56) (t := 114) C q1 i rfl (by omega) (by decide) dX0_rootByte_55 rfl ?_
        refine r_sipush (q := 59) C (nI 255) dX0_rootByte_56 (by decide) rfl ?_
        refine r_iand (q := 60) C dX0_rootByte_59 rfl ?_
        exact r_iret C rfl (by decide) (by decide) dX0_rootByte_60 ⟨by rw [if_neg hc2, hA, hl1 i (by omega)]; rfl, hc.frL hf1 hs1 q1 hfit1, hf1⟩
      | succ r ih =>
        intro m lev1 L1 w1 hi q1 hfit1 hl1 hA hm1 hm2 hs1 hf1
        refine r_iload (q := 29) C 0 dX0_rootByte_27 rfl rfl ?_
        refine r_iconst (q := 30) C (nI 1) dX0_rootByte_29 (by decide) rfl ?_
        refine r_icmp_le (q := 33) (tgt := 50) C dX0_rootByte_30 (by decide) rfl (fun hc5 => ?_) (fun hc5 => ?_)
        · have hc5 : m ≤ 1 := (nI_leI (a := m) (b := 1) (by omega) (by omega)).mp hc5
          refine r_aload_n (q := 51) C 1 dX0_rootByte_50 rfl rfl ?_
          refine r_get (q := 54) (t := 103) C koX0 ((hf1 103 (by decide)).trans hc.1) 2 (by decide) q104 rfl rfl dX0_rootByte_51 rfl ?_
          refine r_iload_n (q := 55) C 2 dX0_rootByte_54 rfl rfl ?_
          refine r_bald (q := 56) (t := 114) C q1 i rfl (by omega) (by decide) dX0_rootByte_55 rfl ?_
          refine r_sipush (q := 59) C (nI 255) dX0_rootByte_56 (by decide) rfl ?_
          refine r_iand (q := 60) C dX0_rootByte_59 rfl ?_
          exact r_iret C rfl (by decide) (by decide) dX0_rootByte_60 ⟨by rw [if_neg hc2, hA, rt9_1 hc5, ← hl1 i (by omega)], hc.frL hf1 hs1 q1 hfit1, hf1⟩
        · have hc5 : ¬ m ≤ 1 := fun z => hc5 ((nI_leI (a := m) (b := 1) (by omega) (by omega)).mpr z)
          refine r_aload_n (q := 34) C 1 dX0_rootByte_33 rfl rfl ?_
          refine r_iload (q := 36) C 0 dX0_rootByte_34 rfl rfl ?_
          refine r_callV (q := 39) (t := 103) (As := [.int (nI m)]) (st := []) C koX0 ((hf1 103 (by decide)).trans hc.1) (c_pairUp ((hf1 103 (by decide)).trans hc.1) hs1 q1 hfit1 hl1 (by omega)) q600 q597 q599 qp15 q6 rfl ⟨by decide, by decide⟩ (show (parseMethodDescriptor yX0_pairUp.desc).map (fun d => d.parameters.length) = some 1 by decide +kernel) (by decide) (by decide) (by decide) (by decide) (Nat.le_of_ble_eq_true rfl) rfl dX0_rootByte_36 rfl ?_
          rintro v9 w6 ⟨rfl, ⟨lev6, e6, hfit6, hl6⟩, hs6, ef6⟩
          show V g k 5 w6 0 0 (kQ g k (fun v w' => v = some (.int (if lfN rD dy n = 0 then -1 else rt9 (lfN rD dy n) (lfN rD dy n) (lfL by9 rD dy n) i &&& nI 255)) ∧ ChAt g w' a3 alr asu alv n er ab by9 rD ∧ Fr w w' 110 115) 0 0) 39 [(4, .int (nI m)), (0, .ref a3), (2, .int (nI i))] []
          refine r_iload (q := 41) C 0 dX0_rootByte_39 rfl rfl ?_
          refine r_iconst (q := 42) C (nI 1) dX0_rootByte_41 (by decide) rfl ?_
          refine r_iadd (q := 43) C dX0_rootByte_42 rfl ?_
          refine r_ti (show ((nI m) + (nI 1) : Int32) = nI (m + 1) from nI_add m 1) ?_
          refine r_iconst (q := 44) C (nI 2) dX0_rootByte_43 (by decide) rfl ?_
          refine r_idiv (q := 45) C dX0_rootByte_44 (by decide) rfl ?_
          refine r_ti (show ((nI (m + 1)) / (nI 2) : Int32) = nI ((m + 1) / 2) from pk_div (by omega) (by omega) (by omega)) ?_
          refine r_istore (q := 47) (lv' := [(4, .int (nI ((m + 1) / 2))), (0, .ref a3), (2, .int (nI i))]) C dX0_rootByte_45 (by decide) rfl rfl ?_
          refine r_goto (tgt := 27) C dX0_rootByte_47 (by decide) ?_
          refine r_sub (lv' := [(4, .int (nI ((m + 1) / 2))), (0, .ref a3), (2, .int (nI i))]) [0, 1, 2] rfl ?_
          exact ih ((m + 1) / 2) lev6 (nx9 m L1) w6 (by omega) e6 hfit6 hl6 (by rw [hA, rt9_2 hc5]) (by omega) (by omega) hs6 (hf1.trans ef6)
    exact loop (lfN rD dy n) (lfN rD dy n) lev5 (lfL by9 rD dy n) w5 (by omega) e5 hfit5 hl5 rfl (by omega) (by omega) hs5 (ef5.mono (by decide) (by decide))
  · have hc2 : (lfN rD dy n) = 0 := (nI_eq (a := (lfN rD dy n)) (b := 0) (by omega) (by omega)).mp hc2
    refine r_iconst (q := 23) C ((-1)) dX0_rootByte_22 (by decide) rfl ?_
    exact r_iret C rfl (by decide) (by decide) dX0_rootByte_23 ⟨by rw [if_pos hc2], hc.frL (ef5.mono (by decide) (by decide)) hs5 e5 hfit5, ef5.mono (by decide) (by decide)⟩
