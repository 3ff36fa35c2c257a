/-! Ticket: put, weigh, shares -/
def tlS (f : Nat → Int64) : Nat → Int64
  | 0 => lN 0
  | n + 1 => tlS f n + f n
def shD (net total : Int64) (f : Nat → Int64) (j : Nat) : Int64 := net * f j / total
def shR (net total : Int64) (f : Nat → Int64) (j : Nat) : Int64 := net * f j - net * f j / total * total
def shL (net total : Int64) (f : Nat → Int64) : Nat → Int64
  | 0 => net
  | n + 1 => shL net total f n - shD net total f n
def shB (net total : Int64) (f : Nat → Int64) (c : Nat) : Nat → Nat
  | 0 => 0
  | n + 1 => shB net total f c n + if shR net total f c < shR net total f n ∨ (shR net total f n = shR net total f c ∧ n < c) then 1 else 0
/-- a customer's share -/
def shA (net total : Int64) (f : Nat → Int64) (c : Nat) : Int64 := if lN (shB net total f c 8) < shL net total f 8 then shD net total f c + lN 1 else shD net total f c
theorem shB_le {net total : Int64} {f : Nat → Int64} {c : Nat} : ∀ n, shB net total f c n ≤ n
  | 0 => Nat.le_refl 0
  | n + 1 => by
    have := shB_le (net := net) (total := total) (f := f) (c := c) n
    rw [shB]
    split <;> omega
theorem tlS_congr {f h : Nat → Int64} : ∀ n, (∀ j, j < n → f j = h j) → tlS f n = tlS h n
  | 0, _ => rfl
  | n + 1, e => by rw [tlS, tlS, tlS_congr n (fun j hj => e j (by omega)), e n (by omega)]
theorem shL_congr {net total : Int64} {f h : Nat → Int64} : ∀ n, (∀ j, j < n → f j = h j) → shL net total f n = shL net total h n
  | 0, _ => rfl
  | n + 1, e => by rw [shL, shL, shL_congr n (fun j hj => e j (by omega)), shD, shD, e n (by omega)]
theorem shB_congr {net total : Int64} {f h : Nat → Int64} {c : Nat} (hc : f c = h c) : ∀ n, (∀ j, j < n → f j = h j) → shB net total f c n = shB net total h c n
  | 0, _ => rfl
  | n + 1, e => by
    rw [shB, shB, shB_congr hc n (fun j hj => e j (by omega))]
    unfold shR
    rw [hc, e n (by omega)]
theorem shA_congr {net total : Int64} {f h : Nat → Int64} {c : Nat} (hc : c < 8) (e : ∀ j, j < 8 → f j = h j) : shA net total f c = shA net total h c := by
  unfold shA
  rw [shL_congr 8 e, shB_congr (e c hc) 8 e, shD, shD, e c hc]
set_option maxHeartbeats 4000000 in
set_option maxRecDepth 20000 in
theorem c_put {l : Launch} {g : cx_G} {w : wd_T} {a t af aw : Nat} {ff : Nat → Int64} (h0 : w t = some (a, ob 6 [.ref af, .ref aw])) (h1 : w (t + 1) = some (af, aL g 9 ff)) {i : Nat} {x : Int64} (hi : i < 9) : Mt l g yX6_put cX6_put 4 none 0 0 0 w [.ref a, .int (nI i), .long x] (fun v w' => v = none ∧ w' (t + 1) = some (af, aL g 9 (vp_updL (vp_updL ff i x) 5 (vp_updL ff i x 3 - vp_updL ff i x 4))) ∧ Fr w w' (t + 1) (t + 2)) := by
  refine mt_of RX6 "put" rfl rfl (by decide) (Nat.le_of_ble_eq_true rfl) [(0, .ref a), (1, .int (nI i)), (2, .long x)] rfl ?_
  intro k hkl C hin
  subst hkl
  refine r_iload_n (q := 1) C 1 dX6_put_0 rfl rfl ?_
  refine r_if_lt_f (q := 4) (tgt := 39) C dX6_put_1 (by decide) rfl (nI_pos (by omega)) ?_
  refine r_iload_n (q := 5) C 1 dX6_put_4 rfl rfl ?_
  refine r_aload_n (q := 6) C 0 dX6_put_5 rfl rfl ?_
  refine r_get (q := 9) (t := t) C koX6 h0 0 (by decide) q295 rfl rfl dX6_put_6 rfl ?_
  refine r_llen (q := 10) (t := (t + 1)) C h1 dX6_put_9 rfl ?_
  refine r_icmp_ge_f (q := 13) (tgt := 39) C dX6_put_10 (by decide) rfl (fun z => absurd ((nI_leI (a := 9) (b := i) (by omega) (by omega)).mp z) (by omega)) ?_
  refine r_aload_n (q := 14) C 0 dX6_put_13 rfl rfl ?_
  refine r_get (q := 17) (t := t) C koX6 h0 0 (by decide) q295 rfl rfl dX6_put_14 rfl ?_
  refine r_iload_n (q := 18) C 1 dX6_put_17 rfl rfl ?_
  refine r_lload_n (q := 19) C 2 dX6_put_18 rfl rfl ?_
  refine r_last (q := 20) (t := (t + 1)) (w' := wd_set w (t + 1) af (aL g 9 (vp_updL ff i x))) C h1 i rfl (by omega) (by decide) dX6_put_19 rfl rfl ?_
  refine r_aload_n (q := 21) C 0 dX6_put_20 rfl rfl ?_
  refine r_get (q := 24) (t := t) C koX6 ((wd_ne (by omega)).trans h0) 0 (by decide) q295 rfl rfl dX6_put_21 rfl ?_
  refine r_iconst (q := 25) C (nI 5) dX6_put_24 (by decide) rfl ?_
  refine r_aload_n (q := 26) C 0 dX6_put_25 rfl rfl ?_
  refine r_get (q := 29) (t := t) C koX6 ((wd_ne (by omega)).trans h0) 0 (by decide) q295 rfl rfl dX6_put_26 rfl ?_
  refine r_iconst (q := 30) C (nI 3) dX6_put_29 (by decide) rfl ?_
  refine r_lald (q := 31) (t := (t + 1)) C wd_eq 3 rfl (by decide) (by decide) dX6_put_30 rfl ?_
  refine r_aload_n (q := 32) C 0 dX6_put_31 rfl rfl ?_
  refine r_get (q := 35) (t := t) C koX6 ((wd_ne (by omega)).trans h0) 0 (by decide) q295 rfl rfl dX6_put_32 rfl ?_
  refine r_iconst (q := 36) C (nI 4) dX6_put_35 (by decide) rfl ?_
  refine r_lald (q := 37) (t := (t + 1)) C wd_eq 4 rfl (by decide) (by decide) dX6_put_36 rfl ?_
  refine r_lsub (q := 38) C dX6_put_37 rfl ?_
  refine r_last (q := 39) (t := (t + 1)) (w' := wd_set w (t + 1) af (aL g 9 (vp_updL (vp_updL ff i x) 5 (((vp_updL ff i x) 3) - ((vp_updL ff i x) 4))))) C wd_eq 5 rfl (by decide) (by decide) dX6_put_38 rfl wd_ss ?_
  exact r_vret C rfl (by decide) (by decide) dX6_put_39 ⟨rfl, wd_eq, Fr.set (by omega) (by omega)⟩

set_option maxHeartbeats 4000000 in
set_option maxRecDepth 20000 in
theorem c_wgh_y {l : Launch} {g : cx_G} {w : wd_T} {a t af aw : Nat} {fw : Nat → Int64} (h0 : w t = some (a, ob 6 [.ref af, .ref aw])) (h2 : w (t + 2) = some (aw, aL g 8 fw)) {i : Nat} {x : Int64} (hi : i < 8) : Mt l g yX6_weigh cX6_weigh 4 (some .boolean) 0 0 0 w [.ref a, .int (nI i), .long x] (fun v w' => v = some (.int (nI 1)) ∧ w' (t + 2) = some (aw, aL g 8 (vp_updL fw i x)) ∧ Fr w w' (t + 2) (t + 3)) := by
  refine mt_of RX6 "weigh" rfl rfl (by decide) (Nat.le_of_ble_eq_true rfl) [(0, .ref a), (1, .int (nI i)), (2, .long x)] rfl ?_
  intro k hkl C hin
  subst hkl
  refine r_iload_n (q := 1) C 1 dX6_weigh_0 rfl rfl ?_
  refine r_if_lt_f (q := 4) (tgt := 13) C dX6_weigh_1 (by decide) rfl (nI_pos (by omega)) ?_
  refine r_iload_n (q := 5) C 1 dX6_weigh_4 rfl rfl ?_
  refine r_aload_n (q := 6) C 0 dX6_weigh_5 rfl rfl ?_
  refine r_get (q := 9) (t := t) C koX6 h0 1 (by decide) q296 rfl rfl dX6_weigh_6 rfl ?_
  refine r_llen (q := 10) (t := (t + 2)) C h2 dX6_weigh_9 rfl ?_
  refine r_icmp_lt_t (tgt := 15) C dX6_weigh_10 (by decide) ((nI_ltI (a := i) (b := 8) (by omega) (by omega)).mpr (by omega)) ?_
  refine r_aload_n (q := 16) C 0 dX6_weigh_15 rfl rfl ?_
  refine r_get (q := 19) (t := t) C koX6 h0 1 (by decide) q296 rfl rfl dX6_weigh_16 rfl ?_
  refine r_iload_n (q := 20) C 1 dX6_weigh_19 rfl rfl ?_
  refine r_lload_n (q := 21) C 2 dX6_weigh_20 rfl rfl ?_
  refine r_last (q := 22) (t := (t + 2)) (w' := wd_set w (t + 2) aw (aL g 8 (vp_updL fw i x))) C h2 i rfl (by omega) (by decide) dX6_weigh_21 rfl rfl ?_
  refine r_iconst (q := 23) C (nI 1) dX6_weigh_22 (by decide) rfl ?_
  exact r_zret C rfl rfl (by decide) (by decide) dX6_weigh_23 ⟨rfl, wd_eq, Fr.set (by omega) (by omega)⟩

set_option maxHeartbeats 4000000 in
set_option maxRecDepth 20000 in
theorem c_wgh_n {l : Launch} {g : cx_G} {w : wd_T} {a t af aw : Nat} {fw : Nat → Int64} (h0 : w t = some (a, ob 6 [.ref af, .ref aw])) (h2 : w (t + 2) = some (aw, aL g 8 fw)) {x : Int32} {y : Int64} (hx : x < 0 ∨ nI 8 ≤ x) : Mt l g yX6_weigh cX6_weigh 4 (some .boolean) 0 0 0 w [.ref a, .int x, .long y] (fun v w' => v = some (.int (nI 0)) ∧ w = w') := by
  refine mt_of RX6 "weigh" rfl rfl (by decide) (Nat.le_of_ble_eq_true rfl) [(0, .ref a), (1, .int x), (2, .long y)] rfl ?_
  intro k hkl C hin
  subst hkl
  refine r_iload_n (q := 1) C 1 dX6_weigh_0 rfl rfl ?_
  refine r_if_lt (q := 4) (tgt := 13) C dX6_weigh_1 (by decide) rfl (fun hc1 => ?_) (fun hc1 => ?_)
  · refine r_iconst (q := 14) C (nI 0) dX6_weigh_13 (by decide) rfl ?_
    exact r_zret C rfl rfl (by decide) (by decide) dX6_weigh_14 ⟨rfl, rfl⟩
  · refine r_iload_n (q := 5) C 1 dX6_weigh_4 rfl rfl ?_
    refine r_aload_n (q := 6) C 0 dX6_weigh_5 rfl rfl ?_
    refine r_get (q := 9) (t := t) C koX6 h0 1 (by decide) q296 rfl rfl dX6_weigh_6 rfl ?_
    refine r_llen (q := 10) (t := (t + 2)) C h2 dX6_weigh_9 rfl ?_
    refine r_icmp_lt_f (q := 13) (tgt := 15) C dX6_weigh_10 (by decide) rfl (by rcases hx with z | z; exact absurd z hc1; exact Int32.not_lt.mpr z) ?_
    refine r_iconst (q := 14) C (nI 0) dX6_weigh_13 (by decide) rfl ?_
    exact r_zret C rfl rfl (by decide) (by decide) dX6_weigh_14 ⟨rfl, rfl⟩

set_option maxHeartbeats 4000000 in
set_option maxRecDepth 20000 in
theorem c_total {l : Launch} {g : cx_G} {w : wd_T} {a t af aw : Nat} {fw : Nat → Int64} (h0 : w t = some (a, ob 6 [.ref af, .ref aw])) (h2 : w (t + 2) = some (aw, aL g 8 fw)) : Mt l g yX6_totalWeight cX6_totalWeight 8 (some .long) 0 0 0 w [.ref a] (fun v w' => v = some (.long (tlS fw 8)) ∧ w = w') := by
  refine mt_of RX6 "totalWeight" rfl rfl (by decide) (Nat.le_of_ble_eq_true rfl) [(0, .ref a)] rfl ?_
  intro k hkl C hin
  subst hkl
  refine r_lconst (q := 1) C (lN 0) dX6_totalWeight_0 (by decide) rfl ?_
  refine r_lstore_n (q := 2) (lv' := [(1, .long (lN 0)), (0, .ref a)]) C dX6_totalWeight_1 (by decide) rfl rfl ?_
  refine r_aload_n (q := 3) C 1 dX6_totalWeight_2 rfl rfl ?_
  refine r_get (q := 6) (t := t) C koX6 h0 1 (by decide) q296 rfl rfl dX6_totalWeight_3 rfl ?_
  refine r_astore_n (q := 7) (lv' := [(3, .ref aw), (1, .long (lN 0)), (0, .ref a)]) C dX6_totalWeight_6 (by decide) rfl rfl ?_
  refine r_aload_n (q := 8) C 0 dX6_totalWeight_7 rfl rfl ?_
  refine r_llen (q := 9) (t := (t + 2)) C h2 dX6_totalWeight_8 rfl ?_
  refine r_istore (q := 11) (lv' := [(4, .int (nI 8)), (3, .ref aw), (1, .long (lN 0)), (0, .ref a)]) C dX6_totalWeight_9 (by decide) rfl rfl ?_
  refine r_iconst (q := 12) C (nI 0) dX6_totalWeight_11 (by decide) rfl ?_
  refine r_istore (q := 14) (lv' := [(5, .int (nI 0)), (4, .int (nI 8)), (3, .ref aw), (1, .long (lN 0)), (0, .ref a)]) C dX6_totalWeight_12 (by decide) rfl rfl ?_
  refine r_sub (lv' := [(5, .int (nI 0)), (1, .long (lN 0)), (0, .ref a), (3, .ref aw), (4, .int (nI 8))]) [0, 3, 4, 2, 1] rfl ?_
  have loop : ∀ (r i : Nat)  , i + r = 8 → V g k 8 w 0 0 (kQ g k (fun v w' => v = some (.long (tlS fw 8)) ∧ w = w') 0 0) 14 [(5, .int (nI i)), (1, .long (tlS fw i)), (0, .ref a), (3, .ref aw), (4, .int (nI 8))] [] := by
    intro r
    induction r with
    | zero =>
      intro i   hi 
      refine r_iload (q := 16) C 0 dX6_totalWeight_14 rfl rfl ?_
      refine r_iload (q := 18) C 4 dX6_totalWeight_16 rfl rfl ?_
      refine r_icmp_ge_t (tgt := 38) C dX6_totalWeight_18 (by decide) ((nI_leI (a := 8) (b := i) (by omega) (by omega)).mpr (by omega)) ?_
      refine r_lload_n (q := 39) C 1 dX6_totalWeight_38 rfl rfl ?_
      obtain rfl : i = 8 := by omega
      exact r_lret C rfl (by decide) (by decide) dX6_totalWeight_39 ⟨rfl, rfl⟩
    | succ r ih =>
      intro i   hi 
      refine r_iload (q := 16) C 0 dX6_totalWeight_14 rfl rfl ?_
      refine r_iload (q := 18) C 4 dX6_totalWeight_16 rfl rfl ?_
      refine r_icmp_ge_f (q := 21) (tgt := 38) C dX6_totalWeight_18 (by decide) rfl (fun z => absurd ((nI_leI (a := 8) (b := i) (by omega) (by omega)).mp z) (by omega)) ?_
      refine r_aload_n (q := 22) C 3 dX6_totalWeight_21 rfl rfl ?_
      refine r_iload (q := 24) C 0 dX6_totalWeight_22 rfl rfl ?_
      refine r_lald (q := 25) (t := (t + 2)) C h2 i rfl (by omega) (by decide) dX6_totalWeight_24 rfl ?_
      refine r_lstore (q := 27) (lv' := [(6, .long (fw i)), (5, .int (nI i)), (1, .long (tlS fw i)), (0, .ref a), (3, .ref aw), (4, .int (nI 8))]) C dX6_totalWeight_25 (by decide) rfl rfl ?_
      refine r_lload_n (q := 28) C 2 dX6_totalWeight_27 rfl rfl ?_
      refine r_lload (q := 30) C 0 dX6_totalWeight_28 rfl rfl ?_
      refine r_ladd (q := 31) C dX6_totalWeight_30 rfl ?_
      refine r_lstore_n (q := 32) (lv' := [(1, .long ((tlS fw i) + (fw i))), (6, .long (fw i)), (5, .int (nI i)), (0, .ref a), (3, .ref aw), (4, .int (nI 8))]) C dX6_totalWeight_31 (by decide) rfl rfl ?_
      refine r_iinc (q := 35) (v := nI (i + 1)) (lv' := [(5, .int (nI (i + 1))), (1, .long ((tlS fw i) + (fw i))), (6, .long (fw i)), (0, .ref a), (3, .ref aw), (4, .int (nI 8))]) C 2 dX6_totalWeight_32 rfl (nI_1 i) (by decide) rfl rfl ?_
      refine r_goto (tgt := 14) C dX6_totalWeight_35 (by decide) ?_
      refine r_sub (lv' := [(5, .int (nI (i + 1))), (1, .long ((tlS fw i) + (fw i))), (0, .ref a), (3, .ref aw), (4, .int (nI 8))]) [0, 1, 3, 4, 5] rfl ?_
      exact ih (i + 1) (by omega)
  exact loop 8 0 (by omega)

set_option maxHeartbeats 4000000 in
set_option maxRecDepth 20000 in
theorem c_shr_n {l : Launch} {g : cx_G} {w : wd_T} {a t af aw : Nat} {ff fw : Nat → Int64} (h0 : w t = some (a, ob 6 [.ref af, .ref aw])) (h1 : w (t + 1) = some (af, aL g 9 ff)) (h2 : w (t + 2) = some (aw, aL g 8 fw)) {x : Int32} (hx : x < 0 ∨ nI 8 ≤ x) : Mt l g yX6_shareOf cX6_shareOf 14 (some .long) 1 0 0 w [.ref a, .int x] (fun v w' => v = some (.long (-1)) ∧ w = w') := by
  refine mt_of RX6 "shareOf" rfl rfl (by decide) (Nat.le_of_ble_eq_true rfl) [(0, .ref a), (1, .int x)] rfl ?_
  intro k hkl C hin
  subst hkl
  refine r_aload_n (q := 1) C 0 dX6_shareOf_0 rfl rfl ?_
  refine r_callV (q := 4) (t := t) (As := []) (st := []) C koX6 h0 (c_total h0 h2) q478 q475 q477 qp11 q17 rfl ⟨by decide, by decide⟩ (show (parseMethodDescriptor yX6_totalWeight.desc).map (fun d => d.parameters.length) = some 0 by decide +kernel) (by decide) (by decide) (by decide) (by decide) (Nat.le_of_ble_eq_true rfl) rfl dX6_shareOf_1 rfl ?_
  rintro v9 w1 ⟨rfl, rfl⟩
  show V g k 14 w 0 0 (kQ g k (fun v w' => v = some (.long (-1)) ∧ w = w') 0 0) 4 [(0, .ref a), (1, .int x)] [.long (tlS fw 8)]
  refine r_lstore_n (q := 5) (lv' := [(2, .long (tlS fw 8)), (0, .ref a), (1, .int x)]) C dX6_shareOf_4 (by decide) rfl rfl ?_
  refine r_iload_n (q := 6) C 2 dX6_shareOf_5 rfl rfl ?_
  refine r_if_lt (q := 9) (tgt := 24) C dX6_shareOf_6 (by decide) rfl (fun hc2 => ?_) (fun hc2 => ?_)
  · refine r_ldc2 (q := 27) (v := (-1)) C dX6_shareOf_24 q313 rfl ?_
    exact r_lret C rfl (by decide) (by decide) dX6_shareOf_27 ⟨rfl, rfl⟩
  · refine r_iload_n (q := 10) C 2 dX6_shareOf_9 rfl rfl ?_
    refine r_aload_n (q := 11) C 1 dX6_shareOf_10 rfl rfl ?_
    refine r_get (q := 14) (t := t) C koX6 h0 1 (by decide) q296 rfl rfl dX6_shareOf_11 rfl ?_
    refine r_llen (q := 15) (t := (t + 2)) C h2 dX6_shareOf_14 rfl ?_
    refine r_icmp_ge_t (tgt := 24) C dX6_shareOf_15 (by decide) (by rcases hx with z | z; exact absurd z hc2; exact z) ?_
    refine r_ldc2 (q := 27) (v := (-1)) C dX6_shareOf_24 q313 rfl ?_
    exact r_lret C rfl (by decide) (by decide) dX6_shareOf_27 ⟨rfl, rfl⟩

set_option maxHeartbeats 4000000 in
set_option maxRecDepth 20000 in
theorem c_shr_0 {l : Launch} {g : cx_G} {w : wd_T} {a t af aw : Nat} {ff fw : Nat → Int64} (h0 : w t = some (a, ob 6 [.ref af, .ref aw])) (h1 : w (t + 1) = some (af, aL g 9 ff)) (h2 : w (t + 2) = some (aw, aL g 8 fw)) {i : Nat} (hi : i < 8) (ht : ¬ lN 0 < tlS fw 8) : Mt l g yX6_shareOf cX6_shareOf 14 (some .long) 1 0 0 w [.ref a, .int (nI i)] (fun v w' => v = some (.long (-1)) ∧ w = w') := by
  refine mt_of RX6 "shareOf" rfl rfl (by decide) (Nat.le_of_ble_eq_true rfl) [(0, .ref a), (1, .int (nI i))] rfl ?_
  intro k hkl C hin
  subst hkl
  refine r_aload_n (q := 1) C 0 dX6_shareOf_0 rfl rfl ?_
  refine r_callV (q := 4) (t := t) (As := []) (st := []) C koX6 h0 (c_total h0 h2) q478 q475 q477 qp11 q17 rfl ⟨by decide, by decide⟩ (show (parseMethodDescriptor yX6_totalWeight.desc).map (fun d => d.parameters.length) = some 0 by decide +kernel) (by decide) (by decide) (by decide) (by decide) (Nat.le_of_ble_eq_true rfl) rfl dX6_shareOf_1 rfl ?_
  rintro v9 w1 ⟨rfl, rfl⟩
  show V g k 14 w 0 0 (kQ g k (fun v w' => v = some (.long (-1)) ∧ w = w') 0 0) 4 [(0, .ref a), (1, .int (nI i))] [.long (tlS fw 8)]
  refine r_lstore_n (q := 5) (lv' := [(2, .long (tlS fw 8)), (0, .ref a), (1, .int (nI i))]) C dX6_shareOf_4 (by decide) rfl rfl ?_
  refine r_iload_n (q := 6) C 2 dX6_shareOf_5 rfl rfl ?_
  refine r_if_lt_f (q := 9) (tgt := 24) C dX6_shareOf_6 (by decide) rfl (nI_pos (by omega)) ?_
  refine r_iload_n (q := 10) C 2 dX6_shareOf_9 rfl rfl ?_
  refine r_aload_n (q := 11) C 1 dX6_shareOf_10 rfl rfl ?_
  refine r_get (q := 14) (t := t) C koX6 h0 1 (by decide) q296 rfl rfl dX6_shareOf_11 rfl ?_
  refine r_llen (q := 15) (t := (t + 2)) C h2 dX6_shareOf_14 rfl ?_
  refine r_icmp_ge_f (q := 18) (tgt := 24) C dX6_shareOf_15 (by decide) rfl (fun z => absurd ((nI_leI (a := 8) (b := i) (by omega) (by omega)).mp z) (by omega)) ?_
  refine r_lload_n (q := 19) C 0 dX6_shareOf_18 rfl rfl ?_
  refine r_lconst (q := 20) C (lN 0) dX6_shareOf_19 (by decide) rfl ?_
  refine r_lcmp_gt (q := 21) (q2 := 24) (tgt := 28) C dX6_shareOf_20 rfl dX6_shareOf_21 (by decide) rfl (fun hz2 => absurd (ht) (by first | exact hz2 | exact fun zz => zz hz2)) (fun _ => ?_)
  refine r_ldc2 (q := 27) (v := (-1)) C dX6_shareOf_24 q313 rfl ?_
  exact r_lret C rfl (by decide) (by decide) dX6_shareOf_27 ⟨rfl, rfl⟩

set_option maxHeartbeats 4000000 in
set_option maxRecDepth 20000 in
theorem c_shr_v {l : Launch} {g : cx_G} {w : wd_T} {a t af aw : Nat} {ff fw : Nat → Int64} (h0 : w t = some (a, ob 6 [.ref af, .ref aw])) (h1 : w (t + 1) = some (af, aL g 9 ff)) (h2 : w (t + 2) = some (aw, aL g 8 fw)) {i : Nat} (hi : i < 8) (ht : lN 0 < tlS fw 8) (hv : ¬ ff 8 = lN 0) : Mt l g yX6_shareOf cX6_shareOf 14 (some .long) 1 0 0 w [.ref a, .int (nI i)] (fun v w' => v = some (.long (shA (lN 0) (tlS fw 8) fw i)) ∧ w = w') := by
  refine mt_of RX6 "shareOf" rfl rfl (by decide) (Nat.le_of_ble_eq_true rfl) [(0, .ref a), (1, .int (nI i))] rfl ?_
  intro k hkl C hin
  subst hkl
  have hne : ¬ tlS fw 8 = 0 := fun z => by rw [z] at ht; exact absurd ht (by decide)
  refine r_aload_n (q := 1) C 0 dX6_shareOf_0 rfl rfl ?_
  refine r_callV (q := 4) (t := t) (As := []) (st := []) C koX6 h0 (c_total h0 h2) q478 q475 q477 qp11 q17 rfl ⟨by decide, by decide⟩ (show (parseMethodDescriptor yX6_totalWeight.desc).map (fun d => d.parameters.length) = some 0 by decide +kernel) (by decide) (by decide) (by decide) (by decide) (Nat.le_of_ble_eq_true rfl) rfl dX6_shareOf_1 rfl ?_
  rintro v9 w1 ⟨rfl, rfl⟩
  show V g k 14 w 0 0 (kQ g k (fun v w' => v = some (.long (shA (lN 0) (tlS fw 8) fw i)) ∧ w = w') 0 0) 4 [(0, .ref a), (1, .int (nI i))] [.long (tlS fw 8)]
  refine r_lstore_n (q := 5) (lv' := [(2, .long (tlS fw 8)), (0, .ref a), (1, .int (nI i))]) C dX6_shareOf_4 (by decide) rfl rfl ?_
  refine r_iload_n (q := 6) C 2 dX6_shareOf_5 rfl rfl ?_
  refine r_if_lt_f (q := 9) (tgt := 24) C dX6_shareOf_6 (by decide) rfl (nI_pos (by omega)) ?_
  refine r_iload_n (q := 10) C 2 dX6_shareOf_9 rfl rfl ?_
  refine r_aload_n (q := 11) C 1 dX6_shareOf_10 rfl rfl ?_
  refine r_get (q := 14) (t := t) C koX6 h0 1 (by decide) q296 rfl rfl dX6_shareOf_11 rfl ?_
  refine r_llen (q := 15) (t := (t + 2)) C h2 dX6_shareOf_14 rfl ?_
  refine r_icmp_ge_f (q := 18) (tgt := 24) C dX6_shareOf_15 (by decide) rfl (fun z => absurd ((nI_leI (a := 8) (b := i) (by omega) (by omega)).mp z) (by omega)) ?_
  refine r_lload_n (q := 19) C 0 dX6_shareOf_18 rfl rfl ?_
  refine r_lconst (q := 20) C (lN 0) dX6_shareOf_19 (by decide) rfl ?_
  refine r_lcmp_gt (q := 21) (q2 := 24) (tgt := 28) C dX6_shareOf_20 rfl dX6_shareOf_21 (by decide) rfl (fun _ => ?_) (fun hz2 => absurd (ht) (by first | exact hz2 | exact fun zz => zz hz2))
  refine r_aload_n (q := 29) C 1 dX6_shareOf_28 rfl rfl ?_
  refine r_callV (q := 32) (t := t) (As := []) (st := []) C koX6 h0 (c_isv_y h0 h1 hv) q413 q479 q411 q412 q17 rfl ⟨by decide, by decide⟩ (show (parseMethodDescriptor yX6_isVoid.desc).map (fun d => d.parameters.length) = some 0 by decide +kernel) (by decide) (by decide) (by decide) (by decide) (Nat.le_of_ble_eq_true rfl) rfl dX6_shareOf_29 rfl ?_
  rintro v9 w3 ⟨rfl, rfl⟩
  show V g k 14 w 0 0 (kQ g k (fun v w' => v = some (.long (shA (lN 0) (tlS fw 8) fw i)) ∧ w = w') 0 0) 32 [(2, .long (tlS fw 8)), (0, .ref a), (1, .int (nI i))] [.int (nI 1)]
  refine r_if_eq_f (q := 35) (tgt := 39) C dX6_shareOf_32 (by decide) rfl (fun z => absurd ((nI_eq (a := 1) (b := 0) (by omega) (by omega)).mp z) (by omega)) ?_
  obtain ⟨net, enet⟩ : ∃ net : Int64, net = lN 0 := ⟨_, rfl⟩
  refine r_lconst (q := 36) C (lN 0) dX6_shareOf_35 (by decide) rfl ?_
  refine r_goto (tgt := 45) C dX6_shareOf_36 (by decide) ?_
  rw [← enet]
  refine r_lstore (q := 47) (lv' := [(4, .long net), (2, .long (tlS fw 8)), (0, .ref a), (1, .int (nI i))]) C dX6_shareOf_45 (by decide) rfl rfl ?_
  refine r_lload (q := 49) C 0 dX6_shareOf_47 rfl rfl ?_
  refine r_lstore (q := 51) (lv' := [(6, .long net), (4, .long net), (2, .long (tlS fw 8)), (0, .ref a), (1, .int (nI i))]) C dX6_shareOf_49 (by decide) rfl rfl ?_
  refine r_iconst (q := 52) C (nI 0) dX6_shareOf_51 (by decide) rfl ?_
  refine r_istore (q := 54) (lv' := [(8, .int (nI 0)), (6, .long net), (4, .long net), (2, .long (tlS fw 8)), (0, .ref a), (1, .int (nI i))]) C dX6_shareOf_52 (by decide) rfl rfl ?_
  refine r_lload (q := 56) C 2 dX6_shareOf_54 rfl rfl ?_
  refine r_aload_n (q := 57) C 4 dX6_shareOf_56 rfl rfl ?_
  refine r_get (q := 60) (t := t) C koX6 h0 1 (by decide) q296 rfl rfl dX6_shareOf_57 rfl ?_
  refine r_iload_n (q := 61) C 5 dX6_shareOf_60 rfl rfl ?_
  refine r_lald (q := 62) (t := (t + 2)) C h2 i rfl (by omega) (by decide) dX6_shareOf_61 rfl ?_
  refine r_lmul (q := 63) C dX6_shareOf_62 rfl ?_
  refine r_lload_n (q := 64) C 3 dX6_shareOf_63 rfl rfl ?_
  refine r_lrem (q := 65) C dX6_shareOf_64 hne rfl ?_
  refine r_lstore (q := 67) (lv' := [(9, .long ((net * (fw i)) - (net * (fw i)) / (tlS fw 8) * (tlS fw 8))), (8, .int (nI 0)), (6, .long net), (4, .long net), (2, .long (tlS fw 8)), (0, .ref a), (1, .int (nI i))]) C dX6_shareOf_65 (by decide) rfl rfl ?_
  show V g k 14 w 0 0 (kQ g k (fun v w' => v = some (.long (shA net (tlS fw 8) fw i)) ∧ w = w') 0 0) 67 [(9, .long (shR net (tlS fw 8) fw i)), (8, .int (nI 0)), (6, .long net), (4, .long net), (2, .long (tlS fw 8)), (0, .ref a), (1, .int (nI i))] []
  refine r_iconst (q := 68) C (nI 0) dX6_shareOf_67 (by decide) rfl ?_
  refine r_istore (q := 70) (lv' := [(11, .int (nI 0)), (9, .long (shR net (tlS fw 8) fw i)), (8, .int (nI 0)), (6, .long net), (4, .long net), (2, .long (tlS fw 8)), (0, .ref a), (1, .int (nI i))]) C dX6_shareOf_68 (by decide) rfl rfl ?_
  refine r_sub (lv' := [(11, .int (nI 0)), (6, .long net), (8, .int (nI 0)), (0, .ref a), (1, .int (nI i)), (2, .long (tlS fw 8)), (4, .long net), (9, .long (shR net (tlS fw 8) fw i))]) [0, 3, 2, 6, 7, 5, 4, 1] rfl ?_
  have loop : ∀ (r o : Nat) (b9 : Nat) , o + r = 8 → (b9 = shB net (tlS fw 8) fw i o) → V g k 14 w 0 0 (kQ g k (fun v w' => v = some (.long (shA net (tlS fw 8) fw i)) ∧ w = w') 0 0) 70 [(11, .int (nI o)), (6, .long (shL net (tlS fw 8) fw o)), (8, .int (nI b9)), (0, .ref a), (1, .int (nI i)), (2, .long (tlS fw 8)), (4, .long net), (9, .long (shR net (tlS fw 8) fw i))] [] := by
    intro r
    induction r with
    | zero =>
      intro o b9  hi hb
      refine r_iload (q := 72) C 0 dX6_shareOf_70 rfl rfl ?_
      refine r_aload_n (q := 73) C 3 dX6_shareOf_72 rfl rfl ?_
      refine r_get (q := 76) (t := t) C koX6 h0 1 (by decide) q296 rfl rfl dX6_shareOf_73 rfl ?_
      refine r_llen (q := 77) (t := (t + 2)) C h2 dX6_shareOf_76 rfl ?_
      refine r_icmp_ge_t (tgt := 142) C dX6_shareOf_77 (by decide) ((nI_leI (a := 8) (b := o) (by omega) (by omega)).mpr (by omega)) ?_
      obtain rfl : o = 8 := by omega
      have hbl : b9 ≤ 8 := by rw [hb]; exact shB_le 8
      refine r_lload (q := 144) C 6 dX6_shareOf_142 rfl rfl ?_
      refine r_aload_n (q := 145) C 3 dX6_shareOf_144 rfl rfl ?_
      refine r_get (q := 148) (t := t) C koX6 h0 1 (by decide) q296 rfl rfl dX6_shareOf_145 rfl ?_
      refine r_iload_n (q := 149) C 4 dX6_shareOf_148 rfl rfl ?_
      refine r_lald (q := 150) (t := (t + 2)) C h2 i rfl (by omega) (by decide) dX6_shareOf_149 rfl ?_
      refine r_lmul (q := 151) C dX6_shareOf_150 rfl ?_
      refine r_lload_n (q := 152) C 5 dX6_shareOf_151 rfl rfl ?_
      refine r_ldiv (q := 153) C dX6_shareOf_152 hne rfl ?_
      refine r_lstore (q := 155) (lv' := [(11, .long ((net * (fw i)) / (tlS fw 8))), (6, .long (shL net (tlS fw 8) fw 8)), (8, .int (nI b9)), (0, .ref a), (1, .int (nI i)), (2, .long (tlS fw 8)), (4, .long net), (9, .long (shR net (tlS fw 8) fw i))]) C dX6_shareOf_153 (by decide) rfl rfl ?_
      refine r_iload (q := 157) C 2 dX6_shareOf_155 rfl rfl ?_
      refine r_i2l (q := 158) C dX6_shareOf_157 rfl ?_
      refine r_tl (show ((nI b9).toInt64 : Int64) = lN b9 from nI_l (by omega)) ?_
      refine r_lload (q := 160) C 1 dX6_shareOf_158 rfl rfl ?_
      refine r_lcmp_ge (q := 161) (q2 := 164) (tgt := 171) C dX6_shareOf_160 rfl dX6_shareOf_161 (by decide) rfl (fun hc4 => ?_) (fun hc4 => ?_)
      · refine r_lload (q := 173) C 0 dX6_shareOf_171 rfl rfl ?_
        exact r_lret C rfl (by decide) (by decide) dX6_shareOf_173 ⟨by unfold shA; subst hb enet; rw [if_neg (Int64.not_lt.mpr hc4)]; rfl, rfl⟩
      · refine r_lload (q := 166) C 0 dX6_shareOf_164 rfl rfl ?_
        refine r_lconst (q := 167) C (lN 1) dX6_shareOf_166 (by decide) rfl ?_
        refine r_ladd (q := 168) C dX6_shareOf_167 rfl ?_
        refine r_goto (tgt := 173) C dX6_shareOf_168 (by decide) ?_
        exact r_lret C rfl (by decide) (by decide) dX6_shareOf_173 ⟨by unfold shA; subst hb enet; rw [if_pos (Int64.not_le.mp hc4)]; rfl, rfl⟩
    | succ r ih =>
      intro o b9  hi hb
      refine r_iload (q := 72) C 0 dX6_shareOf_70 rfl rfl ?_
      refine r_aload_n (q := 73) C 3 dX6_shareOf_72 rfl rfl ?_
      refine r_get (q := 76) (t := t) C koX6 h0 1 (by decide) q296 rfl rfl dX6_shareOf_73 rfl ?_
      refine r_llen (q := 77) (t := (t + 2)) C h2 dX6_shareOf_76 rfl ?_
      refine r_icmp_ge_f (q := 80) (tgt := 142) C dX6_shareOf_77 (by decide) rfl (fun z => absurd ((nI_leI (a := 8) (b := o) (by omega) (by omega)).mp z) (by omega)) ?_
      refine r_lload (q := 82) C 1 dX6_shareOf_80 rfl rfl ?_
      refine r_lload (q := 84) C 6 dX6_shareOf_82 rfl rfl ?_
      refine r_aload_n (q := 85) C 3 dX6_shareOf_84 rfl rfl ?_
      refine r_get (q := 88) (t := t) C koX6 h0 1 (by decide) q296 rfl rfl dX6_shareOf_85 rfl ?_
      refine r_iload (q := 90) C 0 dX6_shareOf_88 rfl rfl ?_
      refine r_lald (q := 91) (t := (t + 2)) C h2 o rfl (by omega) (by decide) dX6_shareOf_90 rfl ?_
      refine r_lmul (q := 92) C dX6_shareOf_91 rfl ?_
      refine r_lload_n (q := 93) C 5 dX6_shareOf_92 rfl rfl ?_
      refine r_ldiv (q := 94) C dX6_shareOf_93 hne rfl ?_
      refine r_lsub (q := 95) C dX6_shareOf_94 rfl ?_
      refine r_lstore (q := 97) (lv' := [(6, .long ((shL net (tlS fw 8) fw o) - ((net * (fw o)) / (tlS fw 8)))), (11, .int (nI o)), (8, .int (nI b9)), (0, .ref a), (1, .int (nI i)), (2, .long (tlS fw 8)), (4, .long net), (9, .long (shR net (tlS fw 8) fw i))]) C dX6_shareOf_95 (by decide) rfl rfl ?_
      refine r_lload (q := 99) C 6 dX6_shareOf_97 rfl rfl ?_
      refine r_aload_n (q := 100) C 3 dX6_shareOf_99 rfl rfl ?_
      refine r_get (q := 103) (t := t) C koX6 h0 1 (by decide) q296 rfl rfl dX6_shareOf_100 rfl ?_
      refine r_iload (q := 105) C 1 dX6_shareOf_103 rfl rfl ?_
      refine r_lald (q := 106) (t := (t + 2)) C h2 o rfl (by omega) (by decide) dX6_shareOf_105 rfl ?_
      refine r_lmul (q := 107) C dX6_shareOf_106 rfl ?_
      refine r_lload_n (q := 108) C 5 dX6_shareOf_107 rfl rfl ?_
      refine r_lrem (q := 109) C dX6_shareOf_108 hne rfl ?_
      refine r_lstore (q := 111) (lv' := [(12, .long ((net * (fw o)) - (net * (fw o)) / (tlS fw 8) * (tlS fw 8))), (6, .long ((shL net (tlS fw 8) fw o) - ((net * (fw o)) / (tlS fw 8)))), (11, .int (nI o)), (8, .int (nI b9)), (0, .ref a), (1, .int (nI i)), (2, .long (tlS fw 8)), (4, .long net), (9, .long (shR net (tlS fw 8) fw i))]) C dX6_shareOf_109 (by decide) rfl rfl ?_
      show V g k 14 w 0 0 (kQ g k (fun v w' => v = some (.long (shA net (tlS fw 8) fw i)) ∧ w = w') 0 0) 111 [(12, .long (shR net (tlS fw 8) fw o)), (6, .long (shL net (tlS fw 8) fw (o + 1))), (11, .int (nI o)), (8, .int (nI b9)), (0, .ref a), (1, .int (nI i)), (2, .long (tlS fw 8)), (4, .long net), (9, .long (shR net (tlS fw 8) fw i))] []
      refine r_lload (q := 113) C 0 dX6_shareOf_111 rfl rfl ?_
      refine r_lload (q := 115) C 8 dX6_shareOf_113 rfl rfl ?_
      refine r_lcmp_gt (q := 116) (q2 := 119) (tgt := 133) C dX6_shareOf_115 rfl dX6_shareOf_116 (by decide) rfl (fun hc8 => ?_) (fun hc8 => ?_)
      · refine r_iinc (q := 136) (v := nI (b9 + 1)) (lv' := [(8, .int (nI (b9 + 1))), (12, .long (shR net (tlS fw 8) fw o)), (6, .long (shL net (tlS fw 8) fw (o + 1))), (11, .int (nI o)), (0, .ref a), (1, .int (nI i)), (2, .long (tlS fw 8)), (4, .long net), (9, .long (shR net (tlS fw 8) fw i))]) C 3 dX6_shareOf_133 rfl (nI_1 b9) (by decide) rfl rfl ?_
        refine r_iinc (q := 139) (v := nI (o + 1)) (lv' := [(11, .int (nI (o + 1))), (8, .int (nI (b9 + 1))), (12, .long (shR net (tlS fw 8) fw o)), (6, .long (shL net (tlS fw 8) fw (o + 1))), (0, .ref a), (1, .int (nI i)), (2, .long (tlS fw 8)), (4, .long net), (9, .long (shR net (tlS fw 8) fw i))]) C 3 dX6_shareOf_136 rfl (nI_1 o) (by decide) rfl rfl ?_
        refine r_goto (tgt := 70) C dX6_shareOf_139 (by decide) ?_
        refine r_sub (lv' := [(11, .int (nI (o + 1))), (6, .long (shL net (tlS fw 8) fw (o + 1))), (8, .int (nI (b9 + 1))), (0, .ref a), (1, .int (nI i)), (2, .long (tlS fw 8)), (4, .long net), (9, .long (shR net (tlS fw 8) fw i))]) [0, 3, 1, 4, 5, 6, 7, 8] rfl ?_
        exact ih (o + 1) (b9 + 1) (by omega) (by rw [shB, if_pos (Or.inl hc8), hb])
      · refine r_lload (q := 121) C 0 dX6_shareOf_119 rfl rfl ?_
        refine r_lload (q := 123) C 8 dX6_shareOf_121 rfl rfl ?_
        refine r_lcmp_ne (q := 124) (q2 := 127) (tgt := 136) C dX6_shareOf_123 rfl dX6_shareOf_124 (by decide) rfl (fun hc11 => ?_) (fun hc11 => ?_)
        · refine r_iinc (q := 139) (v := nI (o + 1)) (lv' := [(11, .int (nI (o + 1))), (12, .long (shR net (tlS fw 8) fw o)), (6, .long (shL net (tlS fw 8) fw (o + 1))), (8, .int (nI b9)), (0, .ref a), (1, .int (nI i)), (2, .long (tlS fw 8)), (4, .long net), (9, .long (shR net (tlS fw 8) fw i))]) C 2 dX6_shareOf_136 rfl (nI_1 o) (by decide) rfl rfl ?_
          refine r_goto (tgt := 70) C dX6_shareOf_139 (by decide) ?_
          refine r_sub (lv' := [(11, .int (nI (o + 1))), (6, .long (shL net (tlS fw 8) fw (o + 1))), (8, .int (nI b9)), (0, .ref a), (1, .int (nI i)), (2, .long (tlS fw 8)), (4, .long net), (9, .long (shR net (tlS fw 8) fw i))]) [0, 2, 3, 4, 5, 6, 7, 8] rfl ?_
          exact ih (o + 1) b9 (by omega) (by rw [shB, if_neg (fun z => z.elim hc8 (fun q => hc11 q.1)), hb]; rfl)
        · refine r_iload (q := 129) C 2 dX6_shareOf_127 rfl rfl ?_
          refine r_iload_n (q := 130) C 5 dX6_shareOf_129 rfl rfl ?_
          refine r_icmp_ge (q := 133) (tgt := 136) C dX6_shareOf_130 (by decide) rfl (fun hc14 => ?_) (fun hc14 => ?_)
          · have hc14 : i ≤ o := (nI_leI (a := i) (b := o) (by omega) (by omega)).mp hc14
            refine r_iinc (q := 139) (v := nI (o + 1)) (lv' := [(11, .int (nI (o + 1))), (12, .long (shR net (tlS fw 8) fw o)), (6, .long (shL net (tlS fw 8) fw (o + 1))), (8, .int (nI b9)), (0, .ref a), (1, .int (nI i)), (2, .long (tlS fw 8)), (4, .long net), (9, .long (shR net (tlS fw 8) fw i))]) C 2 dX6_shareOf_136 rfl (nI_1 o) (by decide) rfl rfl ?_
            refine r_goto (tgt := 70) C dX6_shareOf_139 (by decide) ?_
            refine r_sub (lv' := [(11, .int (nI (o + 1))), (6, .long (shL net (tlS fw 8) fw (o + 1))), (8, .int (nI b9)), (0, .ref a), (1, .int (nI i)), (2, .long (tlS fw 8)), (4, .long net), (9, .long (shR net (tlS fw 8) fw i))]) [0, 2, 3, 4, 5, 6, 7, 8] rfl ?_
            exact ih (o + 1) b9 (by omega) (by rw [shB, if_neg (fun z => z.elim hc8 (fun q => absurd q.2 (by omega))), hb]; rfl)
          · have hc14 : ¬ i ≤ o := fun z => hc14 ((nI_leI (a := i) (b := o) (by omega) (by omega)).mpr z)
            refine r_iinc (q := 136) (v := nI (b9 + 1)) (lv' := [(8, .int (nI (b9 + 1))), (12, .long (shR net (tlS fw 8) fw o)), (6, .long (shL net (tlS fw 8) fw (o + 1))), (11, .int (nI o)), (0, .ref a), (1, .int (nI i)), (2, .long (tlS fw 8)), (4, .long net), (9, .long (shR net (tlS fw 8) fw i))]) C 3 dX6_shareOf_133 rfl (nI_1 b9) (by decide) rfl rfl ?_
            refine r_iinc (q := 139) (v := nI (o + 1)) (lv' := [(11, .int (nI (o + 1))), (8, .int (nI (b9 + 1))), (12, .long (shR net (tlS fw 8) fw o)), (6, .long (shL net (tlS fw 8) fw (o + 1))), (0, .ref a), (1, .int (nI i)), (2, .long (tlS fw 8)), (4, .long net), (9, .long (shR net (tlS fw 8) fw i))]) C 3 dX6_shareOf_136 rfl (nI_1 o) (by decide) rfl rfl ?_
            refine r_goto (tgt := 70) C dX6_shareOf_139 (by decide) ?_
            refine r_sub (lv' := [(11, .int (nI (o + 1))), (6, .long (shL net (tlS fw 8) fw (o + 1))), (8, .int (nI (b9 + 1))), (0, .ref a), (1, .int (nI i)), (2, .long (tlS fw 8)), (4, .long net), (9, .long (shR net (tlS fw 8) fw i))]) [0, 3, 1, 4, 5, 6, 7, 8] rfl ?_
            exact ih (o + 1) (b9 + 1) (by omega) (by rw [shB, if_pos (Or.inr ⟨hc11, by omega⟩), hb])
  exact loop 8 0 0 (by omega) rfl

set_option maxHeartbeats 4000000 in
set_option maxRecDepth 20000 in
theorem c_shr_y {l : Launch} {g : cx_G} {w : wd_T} {a t af aw : Nat} {ff fw : Nat → Int64} (h0 : w t = some (a, ob 6 [.ref af, .ref aw])) (h1 : w (t + 1) = some (af, aL g 9 ff)) (h2 : w (t + 2) = some (aw, aL g 8 fw)) {i : Nat} (hi : i < 8) (ht : lN 0 < tlS fw 8) (hv : ff 8 = lN 0) : Mt l g yX6_shareOf cX6_shareOf 14 (some .long) 1 0 0 w [.ref a, .int (nI i)] (fun v w' => v = some (.long (shA (ff 5) (tlS fw 8) fw i)) ∧ w = w') := by
  refine mt_of RX6 "shareOf" rfl rfl (by decide) (Nat.le_of_ble_eq_true rfl) [(0, .ref a), (1, .int (nI i))] rfl ?_
  intro k hkl C hin
  subst hkl
  have hne : ¬ tlS fw 8 = 0 := fun z => by rw [z] at ht; exact absurd ht (by decide)
  refine r_aload_n (q := 1) C 0 dX6_shareOf_0 rfl rfl ?_
  refine r_callV (q := 4) (t := t) (As := []) (st := []) C koX6 h0 (c_total h0 h2) q478 q475 q477 qp11 q17 rfl ⟨by decide, by decide⟩ (show (parseMethodDescriptor yX6_totalWeight.desc).map (fun d => d.parameters.length) = some 0 by decide +kernel) (by decide) (by decide) (by decide) (by decide) (Nat.le_of_ble_eq_true rfl) rfl dX6_shareOf_1 rfl ?_
  rintro v9 w1 ⟨rfl, rfl⟩
  show V g k 14 w 0 0 (kQ g k (fun v w' => v = some (.long (shA (ff 5) (tlS fw 8) fw i)) ∧ w = w') 0 0) 4 [(0, .ref a), (1, .int (nI i))] [.long (tlS fw 8)]
  refine r_lstore_n (q := 5) (lv' := [(2, .long (tlS fw 8)), (0, .ref a), (1, .int (nI i))]) C dX6_shareOf_4 (by decide) rfl rfl ?_
  refine r_iload_n (q := 6) C 2 dX6_shareOf_5 rfl rfl ?_
  refine r_if_lt_f (q := 9) (tgt := 24) C dX6_shareOf_6 (by decide) rfl (nI_pos (by omega)) ?_
  refine r_iload_n (q := 10) C 2 dX6_shareOf_9 rfl rfl ?_
  refine r_aload_n (q := 11) C 1 dX6_shareOf_10 rfl rfl ?_
  refine r_get (q := 14) (t := t) C koX6 h0 1 (by decide) q296 rfl rfl dX6_shareOf_11 rfl ?_
  refine r_llen (q := 15) (t := (t + 2)) C h2 dX6_shareOf_14 rfl ?_
  refine r_icmp_ge_f (q := 18) (tgt := 24) C dX6_shareOf_15 (by decide) rfl (fun z => absurd ((nI_leI (a := 8) (b := i) (by omega) (by omega)).mp z) (by omega)) ?_
  refine r_lload_n (q := 19) C 0 dX6_shareOf_18 rfl rfl ?_
  refine r_lconst (q := 20) C (lN 0) dX6_shareOf_19 (by decide) rfl ?_
  refine r_lcmp_gt (q := 21) (q2 := 24) (tgt := 28) C dX6_shareOf_20 rfl dX6_shareOf_21 (by decide) rfl (fun _ => ?_) (fun hz2 => absurd (ht) (by first | exact hz2 | exact fun zz => zz hz2))
  refine r_aload_n (q := 29) C 1 dX6_shareOf_28 rfl rfl ?_
  refine r_callV (q := 32) (t := t) (As := []) (st := []) C koX6 h0 (c_isv_n h0 h1 hv) q413 q479 q411 q412 q17 rfl ⟨by decide, by decide⟩ (show (parseMethodDescriptor yX6_isVoid.desc).map (fun d => d.parameters.length) = some 0 by decide +kernel) (by decide) (by decide) (by decide) (by decide) (Nat.le_of_ble_eq_true rfl) rfl dX6_shareOf_29 rfl ?_
  rintro v9 w3 ⟨rfl, rfl⟩
  show V g k 14 w 0 0 (kQ g k (fun v w' => v = some (.long (shA (ff 5) (tlS fw 8) fw i)) ∧ w = w') 0 0) 32 [(2, .long (tlS fw 8)), (0, .ref a), (1, .int (nI i))] [.int (nI 0)]
  refine r_if_eq_t (tgt := 39) C dX6_shareOf_32 (by decide) ((nI_eq (a := 0) (b := 0) (by omega) (by omega)).mpr (by omega)) ?_
  obtain ⟨net, enet⟩ : ∃ net : Int64, net = ff 5 := ⟨_, rfl⟩
  refine r_aload_n (q := 40) C 1 dX6_shareOf_39 rfl rfl ?_
  refine r_get (q := 43) (t := t) C koX6 h0 0 (by decide) q295 rfl rfl dX6_shareOf_40 rfl ?_
  refine r_iconst (q := 44) C (nI 5) dX6_shareOf_43 (by decide) rfl ?_
  refine r_lald (q := 45) (t := (t + 1)) C h1 5 rfl (by decide) (by decide) dX6_shareOf_44 rfl ?_
  rw [← enet]
  refine r_lstore (q := 47) (lv' := [(4, .long net), (2, .long (tlS fw 8)), (0, .ref a), (1, .int (nI i))]) C dX6_shareOf_45 (by decide) rfl rfl ?_
  refine r_lload (q := 49) C 0 dX6_shareOf_47 rfl rfl ?_
  refine r_lstore (q := 51) (lv' := [(6, .long net), (4, .long net), (2, .long (tlS fw 8)), (0, .ref a), (1, .int (nI i))]) C dX6_shareOf_49 (by decide) rfl rfl ?_
  refine r_iconst (q := 52) C (nI 0) dX6_shareOf_51 (by decide) rfl ?_
  refine r_istore (q := 54) (lv' := [(8, .int (nI 0)), (6, .long net), (4, .long net), (2, .long (tlS fw 8)), (0, .ref a), (1, .int (nI i))]) C dX6_shareOf_52 (by decide) rfl rfl ?_
  refine r_lload (q := 56) C 2 dX6_shareOf_54 rfl rfl ?_
  refine r_aload_n (q := 57) C 4 dX6_shareOf_56 rfl rfl ?_
  refine r_get (q := 60) (t := t) C koX6 h0 1 (by decide) q296 rfl rfl dX6_shareOf_57 rfl ?_
  refine r_iload_n (q := 61) C 5 dX6_shareOf_60 rfl rfl ?_
  refine r_lald (q := 62) (t := (t + 2)) C h2 i rfl (by omega) (by decide) dX6_shareOf_61 rfl ?_
  refine r_lmul (q := 63) C dX6_shareOf_62 rfl ?_
  refine r_lload_n (q := 64) C 3 dX6_shareOf_63 rfl rfl ?_
  refine r_lrem (q := 65) C dX6_shareOf_64 hne rfl ?_
  refine r_lstore (q := 67) (lv' := [(9, .long ((net * (fw i)) - (net * (fw i)) / (tlS fw 8) * (tlS fw 8))), (8, .int (nI 0)), (6, .long net), (4, .long net), (2, .long (tlS fw 8)), (0, .ref a), (1, .int (nI i))]) C dX6_shareOf_65 (by decide) rfl rfl ?_
  show V g k 14 w 0 0 (kQ g k (fun v w' => v = some (.long (shA net (tlS fw 8) fw i)) ∧ w = w') 0 0) 67 [(9, .long (shR net (tlS fw 8) fw i)), (8, .int (nI 0)), (6, .long net), (4, .long net), (2, .long (tlS fw 8)), (0, .ref a), (1, .int (nI i))] []
  refine r_iconst (q := 68) C (nI 0) dX6_shareOf_67 (by decide) rfl ?_
  refine r_istore (q := 70) (lv' := [(11, .int (nI 0)), (9, .long (shR net (tlS fw 8) fw i)), (8, .int (nI 0)), (6, .long net), (4, .long net), (2, .long (tlS fw 8)), (0, .ref a), (1, .int (nI i))]) C dX6_shareOf_68 (by decide) rfl rfl ?_
  refine r_sub (lv' := [(11, .int (nI 0)), (6, .long net), (8, .int (nI 0)), (0, .ref a), (1, .int (nI i)), (2, .long (tlS fw 8)), (4, .long net), (9, .long (shR net (tlS fw 8) fw i))]) [0, 3, 2, 6, 7, 5, 4, 1] rfl ?_
  have loop : ∀ (r o : Nat) (b9 : Nat) , o + r = 8 → (b9 = shB net (tlS fw 8) fw i o) → V g k 14 w 0 0 (kQ g k (fun v w' => v = some (.long (shA net (tlS fw 8) fw i)) ∧ w = w') 0 0) 70 [(11, .int (nI o)), (6, .long (shL net (tlS fw 8) fw o)), (8, .int (nI b9)), (0, .ref a), (1, .int (nI i)), (2, .long (tlS fw 8)), (4, .long net), (9, .long (shR net (tlS fw 8) fw i))] [] := by
    intro r
    induction r with
    | zero =>
      intro o b9  hi hb
      refine r_iload (q := 72) C 0 dX6_shareOf_70 rfl rfl ?_
      refine r_aload_n (q := 73) C 3 dX6_shareOf_72 rfl rfl ?_
      refine r_get (q := 76) (t := t) C koX6 h0 1 (by decide) q296 rfl rfl dX6_shareOf_73 rfl ?_
      refine r_llen (q := 77) (t := (t + 2)) C h2 dX6_shareOf_76 rfl ?_
      refine r_icmp_ge_t (tgt := 142) C dX6_shareOf_77 (by decide) ((nI_leI (a := 8) (b := o) (by omega) (by omega)).mpr (by omega)) ?_
      obtain rfl : o = 8 := by omega
      have hbl : b9 ≤ 8 := by rw [hb]; exact shB_le 8
      refine r_lload (q := 144) C 6 dX6_shareOf_142 rfl rfl ?_
      refine r_aload_n (q := 145) C 3 dX6_shareOf_144 rfl rfl ?_
      refine r_get (q := 148) (t := t) C koX6 h0 1 (by decide) q296 rfl rfl dX6_shareOf_145 rfl ?_
      refine r_iload_n (q := 149) C 4 dX6_shareOf_148 rfl rfl ?_
      refine r_lald (q := 150) (t := (t + 2)) C h2 i rfl (by omega) (by decide) dX6_shareOf_149 rfl ?_
      refine r_lmul (q := 151) C dX6_shareOf_150 rfl ?_
      refine r_lload_n (q := 152) C 5 dX6_shareOf_151 rfl rfl ?_
      refine r_ldiv (q := 153) C dX6_shareOf_152 hne rfl ?_
      refine r_lstore (q := 155) (lv' := [(11, .long ((net * (fw i)) / (tlS fw 8))), (6, .long (shL net (tlS fw 8) fw 8)), (8, .int (nI b9)), (0, .ref a), (1, .int (nI i)), (2, .long (tlS fw 8)), (4, .long net), (9, .long (shR net (tlS fw 8) fw i))]) C dX6_shareOf_153 (by decide) rfl rfl ?_
      refine r_iload (q := 157) C 2 dX6_shareOf_155 rfl rfl ?_
      refine r_i2l (q := 158) C dX6_shareOf_157 rfl ?_
      refine r_tl (show ((nI b9).toInt64 : Int64) = lN b9 from nI_l (by omega)) ?_
      refine r_lload (q := 160) C 1 dX6_shareOf_158 rfl rfl ?_
      refine r_lcmp_ge (q := 161) (q2 := 164) (tgt := 171) C dX6_shareOf_160 rfl dX6_shareOf_161 (by decide) rfl (fun hc4 => ?_) (fun hc4 => ?_)
      · refine r_lload (q := 173) C 0 dX6_shareOf_171 rfl rfl ?_
        exact r_lret C rfl (by decide) (by decide) dX6_shareOf_173 ⟨by unfold shA; subst hb enet; rw [if_neg (Int64.not_lt.mpr hc4)]; rfl, rfl⟩
      · refine r_lload (q := 166) C 0 dX6_shareOf_164 rfl rfl ?_
        refine r_lconst (q := 167) C (lN 1) dX6_shareOf_166 (by decide) rfl ?_
        refine r_ladd (q := 168) C dX6_shareOf_167 rfl ?_
        refine r_goto (tgt := 173) C dX6_shareOf_168 (by decide) ?_
        exact r_lret C rfl (by decide) (by decide) dX6_shareOf_173 ⟨by unfold shA; subst hb enet; rw [if_pos (Int64.not_le.mp hc4)]; rfl, rfl⟩
    | succ r ih =>
      intro o b9  hi hb
      refine r_iload (q := 72) C 0 dX6_shareOf_70 rfl rfl ?_
      refine r_aload_n (q := 73) C 3 dX6_shareOf_72 rfl rfl ?_
      refine r_get (q := 76) (t := t) C koX6 h0 1 (by decide) q296 rfl rfl dX6_shareOf_73 rfl ?_
      refine r_llen (q := 77) (t := (t + 2)) C h2 dX6_shareOf_76 rfl ?_
      refine r_icmp_ge_f (q := 80) (tgt := 142) C dX6_shareOf_77 (by decide) rfl (fun z => absurd ((nI_leI (a := 8) (b := o) (by omega) (by omega)).mp z) (by omega)) ?_
      refine r_lload (q := 82) C 1 dX6_shareOf_80 rfl rfl ?_
      refine r_lload (q := 84) C 6 dX6_shareOf_82 rfl rfl ?_
      refine r_aload_n (q := 85) C 3 dX6_shareOf_84 rfl rfl ?_
      refine r_get (q := 88) (t := t) C koX6 h0 1 (by decide) q296 rfl rfl dX6_shareOf_85 rfl ?_
      refine r_iload (q := 90) C 0 dX6_shareOf_88 rfl rfl ?_
      refine r_lald (q := 91) (t := (t + 2)) C h2 o rfl (by omega) (by decide) dX6_shareOf_90 rfl ?_
      refine r_lmul (q := 92) C dX6_shareOf_91 rfl ?_
      refine r_lload_n (q := 93) C 5 dX6_shareOf_92 rfl rfl ?_
      refine r_ldiv (q := 94) C dX6_shareOf_93 hne rfl ?_
      refine r_lsub (q := 95) C dX6_shareOf_94 rfl ?_
      refine r_lstore (q := 97) (lv' := [(6, .long ((shL net (tlS fw 8) fw o) - ((net * (fw o)) / (tlS fw 8)))), (11, .int (nI o)), (8, .int (nI b9)), (0, .ref a), (1, .int (nI i)), (2, .long (tlS fw 8)), (4, .long net), (9, .long (shR net (tlS fw 8) fw i))]) C dX6_shareOf_95 (by decide) rfl rfl ?_
      refine r_lload (q := 99) C 6 dX6_shareOf_97 rfl rfl ?_
      refine r_aload_n (q := 100) C 3 dX6_shareOf_99 rfl rfl ?_
      refine r_get (q := 103) (t := t) C koX6 h0 1 (by decide) q296 rfl rfl dX6_shareOf_100 rfl ?_
      refine r_iload (q := 105) C 1 dX6_shareOf_103 rfl rfl ?_
      refine r_lald (q := 106) (t := (t + 2)) C h2 o rfl (by omega) (by decide) dX6_shareOf_105 rfl ?_
      refine r_lmul (q := 107) C dX6_shareOf_106 rfl ?_
      refine r_lload_n (q := 108) C 5 dX6_shareOf_107 rfl rfl ?_
      refine r_lrem (q := 109) C dX6_shareOf_108 hne rfl ?_
      refine r_lstore (q := 111) (lv' := [(12, .long ((net * (fw o)) - (net * (fw o)) / (tlS fw 8) * (tlS fw 8))), (6, .long ((shL net (tlS fw 8) fw o) - ((net * (fw o)) / (tlS fw 8)))), (11, .int (nI o)), (8, .int (nI b9)), (0, .ref a), (1, .int (nI i)), (2, .long (tlS fw 8)), (4, .long net), (9, .long (shR net (tlS fw 8) fw i))]) C dX6_shareOf_109 (by decide) rfl rfl ?_
      show V g k 14 w 0 0 (kQ g k (fun v w' => v = some (.long (shA net (tlS fw 8) fw i)) ∧ w = w') 0 0) 111 [(12, .long (shR net (tlS fw 8) fw o)), (6, .long (shL net (tlS fw 8) fw (o + 1))), (11, .int (nI o)), (8, .int (nI b9)), (0, .ref a), (1, .int (nI i)), (2, .long (tlS fw 8)), (4, .long net), (9, .long (shR net (tlS fw 8) fw i))] []
      refine r_lload (q := 113) C 0 dX6_shareOf_111 rfl rfl ?_
      refine r_lload (q := 115) C 8 dX6_shareOf_113 rfl rfl ?_
      refine r_lcmp_gt (q := 116) (q2 := 119) (tgt := 133) C dX6_shareOf_115 rfl dX6_shareOf_116 (by decide) rfl (fun hc8 => ?_) (fun hc8 => ?_)
      · refine r_iinc (q := 136) (v := nI (b9 + 1)) (lv' := [(8, .int (nI (b9 + 1))), (12, .long (shR net (tlS fw 8) fw o)), (6, .long (shL net (tlS fw 8) fw (o + 1))), (11, .int (nI o)), (0, .ref a), (1, .int (nI i)), (2, .long (tlS fw 8)), (4, .long net), (9, .long (shR net (tlS fw 8) fw i))]) C 3 dX6_shareOf_133 rfl (nI_1 b9) (by decide) rfl rfl ?_
        refine r_iinc (q := 139) (v := nI (o + 1)) (lv' := [(11, .int (nI (o + 1))), (8, .int (nI (b9 + 1))), (12, .long (shR net (tlS fw 8) fw o)), (6, .long (shL net (tlS fw 8) fw (o + 1))), (0, .ref a), (1, .int (nI i)), (2, .long (tlS fw 8)), (4, .long net), (9, .long (shR net (tlS fw 8) fw i))]) C 3 dX6_shareOf_136 rfl (nI_1 o) (by decide) rfl rfl ?_
        refine r_goto (tgt := 70) C dX6_shareOf_139 (by decide) ?_
        refine r_sub (lv' := [(11, .int (nI (o + 1))), (6, .long (shL net (tlS fw 8) fw (o + 1))), (8, .int (nI (b9 + 1))), (0, .ref a), (1, .int (nI i)), (2, .long (tlS fw 8)), (4, .long net), (9, .long (shR net (tlS fw 8) fw i))]) [0, 3, 1, 4, 5, 6, 7, 8] rfl ?_
        exact ih (o + 1) (b9 + 1) (by omega) (by rw [shB, if_pos (Or.inl hc8), hb])
      · refine r_lload (q := 121) C 0 dX6_shareOf_119 rfl rfl ?_
        refine r_lload (q := 123) C 8 dX6_shareOf_121 rfl rfl ?_
        refine r_lcmp_ne (q := 124) (q2 := 127) (tgt := 136) C dX6_shareOf_123 rfl dX6_shareOf_124 (by decide) rfl (fun hc11 => ?_) (fun hc11 => ?_)
        · refine r_iinc (q := 139) (v := nI (o + 1)) (lv' := [(11, .int (nI (o + 1))), (12, .long (shR net (tlS fw 8) fw o)), (6, .long (shL net (tlS fw 8) fw (o + 1))), (8, .int (nI b9)), (0, .ref a), (1, .int (nI i)), (2, .long (tlS fw 8)), (4, .long net), (9, .long (shR net (tlS fw 8) fw i))]) C 2 dX6_shareOf_136 rfl (nI_1 o) (by decide) rfl rfl ?_
          refine r_goto (tgt := 70) C dX6_shareOf_139 (by decide) ?_
          refine r_sub (lv' := [(11, .int (nI (o + 1))), (6, .long (shL net (tlS fw 8) fw (o + 1))), (8, .int (nI b9)), (0, .ref a), (1, .int (nI i)), (2, .long (tlS fw 8)), (4, .long net), (9, .long (shR net (tlS fw 8) fw i))]) [0, 2, 3, 4, 5, 6, 7, 8] rfl ?_
          exact ih (o + 1) b9 (by omega) (by rw [shB, if_neg (fun z => z.elim hc8 (fun q => hc11 q.1)), hb]; rfl)
        · refine r_iload (q := 129) C 2 dX6_shareOf_127 rfl rfl ?_
          refine r_iload_n (q := 130) C 5 dX6_shareOf_129 rfl rfl ?_
          refine r_icmp_ge (q := 133) (tgt := 136) C dX6_shareOf_130 (by decide) rfl (fun hc14 => ?_) (fun hc14 => ?_)
          · have hc14 : i ≤ o := (nI_leI (a := i) (b := o) (by omega) (by omega)).mp hc14
            refine r_iinc (q := 139) (v := nI (o + 1)) (lv' := [(11, .int (nI (o + 1))), (12, .long (shR net (tlS fw 8) fw o)), (6, .long (shL net (tlS fw 8) fw (o + 1))), (8, .int (nI b9)), (0, .ref a), (1, .int (nI i)), (2, .long (tlS fw 8)), (4, .long net), (9, .long (shR net (tlS fw 8) fw i))]) C 2 dX6_shareOf_136 rfl (nI_1 o) (by decide) rfl rfl ?_
            refine r_goto (tgt := 70) C dX6_shareOf_139 (by decide) ?_
            refine r_sub (lv' := [(11, .int (nI (o + 1))), (6, .long (shL net (tlS fw 8) fw (o + 1))), (8, .int (nI b9)), (0, .ref a), (1, .int (nI i)), (2, .long (tlS fw 8)), (4, .long net), (9, .long (shR net (tlS fw 8) fw i))]) [0, 2, 3, 4, 5, 6, 7, 8] rfl ?_
            exact ih (o + 1) b9 (by omega) (by rw [shB, if_neg (fun z => z.elim hc8 (fun q => absurd q.2 (by omega))), hb]; rfl)
          · have hc14 : ¬ i ≤ o := fun z => hc14 ((nI_leI (a := i) (b := o) (by omega) (by omega)).mpr z)
            refine r_iinc (q := 136) (v := nI (b9 + 1)) (lv' := [(8, .int (nI (b9 + 1))), (12, .long (shR net (tlS fw 8) fw o)), (6, .long (shL net (tlS fw 8) fw (o + 1))), (11, .int (nI o)), (0, .ref a), (1, .int (nI i)), (2, .long (tlS fw 8)), (4, .long net), (9, .long (shR net (tlS fw 8) fw i))]) C 3 dX6_shareOf_133 rfl (nI_1 b9) (by decide) rfl rfl ?_
            refine r_iinc (q := 139) (v := nI (o + 1)) (lv' := [(11, .int (nI (o + 1))), (8, .int (nI (b9 + 1))), (12, .long (shR net (tlS fw 8) fw o)), (6, .long (shL net (tlS fw 8) fw (o + 1))), (0, .ref a), (1, .int (nI i)), (2, .long (tlS fw 8)), (4, .long net), (9, .long (shR net (tlS fw 8) fw i))]) C 3 dX6_shareOf_136 rfl (nI_1 o) (by decide) rfl rfl ?_
            refine r_goto (tgt := 70) C dX6_shareOf_139 (by decide) ?_
            refine r_sub (lv' := [(11, .int (nI (o + 1))), (6, .long (shL net (tlS fw 8) fw (o + 1))), (8, .int (nI (b9 + 1))), (0, .ref a), (1, .int (nI i)), (2, .long (tlS fw 8)), (4, .long net), (9, .long (shR net (tlS fw 8) fw i))]) [0, 3, 1, 4, 5, 6, 7, 8] rfl ?_
            exact ih (o + 1) (b9 + 1) (by omega) (by rw [shB, if_pos (Or.inr ⟨hc11, by omega⟩), hb])
  exact loop 8 0 0 (by omega) rfl
