/-! Chain: rows and what is summed over them -/
/-- Sum's cells, with the state S -/
def SmS (g : cx_G) (w : wd_T) (asu : Nat) (S : Nat → Int32) : Prop := ∃ (n am aw as9 : Nat) (msg wds sta : Nat → Int32), w 110 = some (asu, ob 3 [.ref am, .ref aw, .ref as9, .int (nI n)]) ∧ w 111 = some (am, aB g 128 msg) ∧ w 112 = some (aw, aI g 64 wds) ∧ w 113 = some (as9, aI g 8 sta) ∧ ∀ j, j < 8 → sta j = S j
def SmAt (g : cx_G) (w : wd_T) (asu : Nat) : Prop := ∃ S, SmS g w asu S
theorem SmAt.kept {g : cx_G} {w w' : wd_T} {asu : Nat} (h : SmAt g w asu) (e : ∀ t, 110 ≤ t → t < 114 → w' t = w t) : SmAt g w' asu := by
  obtain ⟨S, n, am, aw, as9, msg, wds, sta, h0, h1, h2, h3, h4⟩ := h
  exact ⟨S, n, am, aw, as9, msg, wds, sta, (e 110 (by decide) (by decide)).trans h0, (e 111 (by decide) (by decide)).trans h1, (e 112 (by decide) (by decide)).trans h2, (e 113 (by decide) (by decide)).trans h3, h4⟩
/-- a row's message: the digest before it, its own 41 bytes -/
def rw9 (pd fb : Nat → Int32) : Nat → Int32 := fun j => if j < 32 then pd j else fb (j - 32)
theorem rw9_msg {msg f1 f2 : Nat → Int32} : ∀ j, j < 73 → adF (adF msg 0 32 f1) (0 + 32) 41 f2 j = (rw9 f1 f2 j).toInt8.toInt32 := by
  intro j hj
  unfold adF rw9
  rcases Nat.lt_or_ge j 32 with q | q
  · rw [if_neg (by omega), if_pos (by omega), if_pos q, Nat.sub_zero]
  · rw [if_pos (by omega), if_neg (by omega), Nat.zero_add]
theorem rw9_m0 {msg f1 p1 fb : Nat → Int32} (h : ∀ j, j < 32 → f1 j = p1 j) : ∀ j, j < 73 → adF (adF msg 0 32 f1) (0 + 32) 41 (fun j => fb (0 + j)) j = (rw9 p1 fb j).toInt8.toInt32 := by
  intro j hj
  rw [rw9_msg j hj]
  unfold rw9
  by_cases q : j < 32
  · rw [if_pos q, if_pos q, h j q]
  · rw [if_neg q, if_neg q]
    show (fb (0 + (j - 32))).toInt8.toInt32 = _
    rw [Nat.zero_add]
theorem rw9_congr {p1 p2 f1 f2 : Nat → Int32} (hp : ∀ j, j < 32 → p1 j = p2 j) (hf : ∀ j, j < 41 → f1 j = f2 j) : sum9 73 (rw9 p1 f1) = sum9 73 (rw9 p2 f2) := by
  apply sum9_congr
  intro j hj
  unfold rw9
  by_cases q : j < 32
  · rw [if_pos q, if_pos q, hp j q]
  · rw [if_neg q, if_neg q, hf (j - 32) (by omega)]
/-- what a row is summed over -/
def rwD (by9 : Nat → Int32) (r : Nat) : Nat → Int32 := rw9 (fun j => if r = 0 then nI 0 else by9 (73 * (r - 1) + 41 + j)) (fun j => by9 (73 * r + j))
def okR (by9 : Nat → Int32) (r : Nat) : Prop := ∀ k, k < 32 → by9 (73 * r + (41 + k)) = dig9 (sum9 73 (rwD by9 r)) k
/-- the rows: tags 2000 + 2 r, 2001 + 2 r -/
def RwAt (g : cx_G) (w : wd_T) (n : Nat) (er ab : Nat → Nat) (by9 rD : Nat → Int32) : Prop := ∀ r, r < n → (∃ wr : Int32, w (2000 + 2 * r) = some (er r, ob 2 [.ref (ab r), .int (rD r), .int wr])) ∧ ∃ fb : Nat → Int32, w (2001 + 2 * r) = some (ab r, aB g 73 fb) ∧ ∀ j, j < 73 → fb j = by9 (73 * r + j)
def ChAt (g : cx_G) (w : wd_T) (a3 alr asu alv n : Nat) (er ab : Nat → Nat) (by9 rD : Nat → Int32) : Prop :=
  w 103 = some (a3, ob 0 [.ref alr, .ref asu, .ref alv]) ∧ LsAt g w 126 alr n er (fun j => 2000 + 2 * j) ∧ RwAt g w n er ab by9 rD ∧ SmAt g w asu ∧ ∃ lev : Nat → Int32, w 114 = some (alv, aB g 6400 lev) ∧ sb_Fit lev
set_option maxHeartbeats 4000000 in
set_option maxRecDepth 20000 in
theorem c_count {l : Launch} {g : cx_G} {w : wd_T} {a3 alr asu alv n : Nat} {er ab : Nat → Nat} {by9 rD : Nat → Int32} (hc : ChAt g w a3 alr asu alv n er ab by9 rD) (hn : n ≤ 150) : Mt l g yX0_count cX0_count 1 (some .int) 1 0 0 w [.ref a3] (fun v w' => v = some (.int (nI n)) ∧ w = w') := by
  refine mt_of RX0 "count" rfl rfl (by decide) (Nat.le_of_ble_eq_true rfl) [(0, .ref a3)] rfl ?_
  intro k hkl C hin
  subst hkl
  obtain ⟨m9, ae, hls⟩ := (hc.2.1).get
  refine r_aload_n (q := 1) C 0 dX0_count_0 rfl rfl ?_
  refine r_get (q := 4) (t := 103) C koX0 hc.1 0 (by decide) q102 rfl rfl dX0_count_1 rfl ?_
  refine r_callV (q := 7) (t := 126) (As := []) (st := []) C koJx4a65c hls (c_ALsize hc.2.1) q175 q284 q173 q174 q5 rfl ⟨by decide, by decide⟩ (show (parseMethodDescriptor yJx4a65c_size_8abf5.desc).map (fun d => d.parameters.length) = some 0 by decide +kernel) (by decide) (by decide) (by decide) (by decide) (Nat.le_of_ble_eq_true rfl) rfl dX0_count_4 rfl ?_
  rintro v9 w1 ⟨rfl, rfl⟩
  show V g k 1 w 0 0 (kQ g k (fun v w' => v = some (.int (nI n)) ∧ w = w') 0 0) 7 [(0, .ref a3)] [.int (nI n)]
  exact r_iret C rfl (by decide) (by decide) dX0_count_7 ⟨rfl, rfl⟩

set_option maxHeartbeats 4000000 in
set_option maxRecDepth 20000 in
theorem c_isFull {l : Launch} {g : cx_G} {w : wd_T} {a3 alr asu alv n : Nat} {er ab : Nat → Nat} {by9 rD : Nat → Int32} (hc : ChAt g w a3 alr asu alv n er ab by9 rD) (hn : n ≤ 150) : Mt l g yX0_isFull cX0_isFull 1 (some .boolean) 1 0 0 w [.ref a3] (fun v w' => v = some (.int (nI 0)) ∧ w = w') := by
  refine mt_of RX0 "isFull" rfl rfl (by decide) (Nat.le_of_ble_eq_true rfl) [(0, .ref a3)] rfl ?_
  intro k hkl C hin
  subst hkl
  obtain ⟨m9, ae, hls⟩ := (hc.2.1).get
  refine r_aload_n (q := 1) C 0 dX0_isFull_0 rfl rfl ?_
  refine r_get (q := 4) (t := 103) C koX0 hc.1 0 (by decide) q102 rfl rfl dX0_isFull_1 rfl ?_
  refine r_callV (q := 7) (t := 126) (As := []) (st := []) C koJx4a65c hls (c_ALsize hc.2.1) q175 q284 q173 q174 q5 rfl ⟨by decide, by decide⟩ (show (parseMethodDescriptor yJx4a65c_size_8abf5.desc).map (fun d => d.parameters.length) = some 0 by decide +kernel) (by decide) (by decide) (by decide) (by decide) (Nat.le_of_ble_eq_true rfl) rfl dX0_isFull_4 rfl ?_
  rintro v9 w1 ⟨rfl, rfl⟩
  show V g k 1 w 0 0 (kQ g k (fun v w' => v = some (.int (nI 0)) ∧ w = w') 0 0) 7 [(0, .ref a3)] [.int (nI n)]
  refine r_sipush (q := 10) C (nI 200) dX0_isFull_7 (by decide) rfl ?_
  refine r_icmp_lt_t (tgt := 17) C dX0_isFull_10 (by decide) ((nI_ltI (a := n) (b := 200) (by omega) (by omega)).mpr (by omega)) ?_
  refine r_iconst (q := 18) C (nI 0) dX0_isFull_17 (by decide) rfl ?_
  exact r_zret C rfl rfl (by decide) (by decide) dX0_isFull_18 ⟨rfl, rfl⟩

set_option maxHeartbeats 4000000 in
set_option maxRecDepth 20000 in
theorem c_find_y {l : Launch} {g : cx_G} {w : wd_T} {a3 alr asu alv n : Nat} {er ab : Nat → Nat} {by9 rD : Nat → Int32} (hc : ChAt g w a3 alr asu alv n er ab by9 rD) (hn : n ≤ 150) {r : Nat} (hr : r < n) : Mt l g yX0_find cX0_find 2 (some (.object "TicketChain$Row")) 3 0 0 w [.ref a3, .int (nI r)] (fun v w' => v = some (.ref (er r)) ∧ w = w') := by
  refine mt_of RX0 "find" rfl rfl (by decide) (Nat.le_of_ble_eq_true rfl) [(0, .ref a3), (1, .int (nI r))] rfl ?_
  intro k hkl C hin
  subst hkl
  obtain ⟨m9, ae, hls⟩ := (hc.2.1).get
  obtain ⟨wr, hro⟩ := (hc.2.2.1 r hr).1
  refine r_iload_n (q := 1) C 1 dX0_find_0 rfl rfl ?_
  refine r_if_lt_f (q := 4) (tgt := 29) C dX0_find_1 (by decide) rfl (nI_pos (by omega)) ?_
  refine r_iload_n (q := 5) C 1 dX0_find_4 rfl rfl ?_
  refine r_aload_n (q := 6) C 0 dX0_find_5 rfl rfl ?_
  refine r_get (q := 9) (t := 103) C koX0 hc.1 0 (by decide) q102 rfl rfl dX0_find_6 rfl ?_
  refine r_callV (q := 12) (t := 126) (As := []) (st := [.int (nI r)]) C koJx4a65c hls (c_ALsize hc.2.1) q175 q284 q173 q174 q5 rfl ⟨by decide, by decide⟩ (show (parseMethodDescriptor yJx4a65c_size_8abf5.desc).map (fun d => d.parameters.length) = some 0 by decide +kernel) (by decide) (by decide) (by decide) (by decide) (Nat.le_of_ble_eq_true rfl) rfl dX0_find_9 rfl ?_
  rintro v9 w1 ⟨rfl, rfl⟩
  show V g k 2 w 0 0 (kQ g k (fun v w' => v = some (.ref (er r)) ∧ w = w') 0 0) 12 [(0, .ref a3), (1, .int (nI r))] [.int (nI n), .int (nI r)]
  refine r_icmp_ge_f (q := 15) (tgt := 29) C dX0_find_12 (by decide) rfl (fun z => absurd ((nI_leI (a := n) (b := r) (by omega) (by omega)).mp z) (by omega)) ?_
  refine r_aload_n (q := 16) C 0 dX0_find_15 rfl rfl ?_
  refine r_get (q := 19) (t := 103) C koX0 hc.1 0 (by decide) q102 rfl rfl dX0_find_16 rfl ?_
  refine r_iload_n (q := 20) C 1 dX0_find_19 rfl rfl ?_
  refine r_callV (q := 23) (t := 126) (As := [.int (nI r)]) (st := []) C koJx4a65c hls (c_ALget hc.2.1 hr (by omega)) q179 q342 q177 q178 q5 rfl ⟨by decide, by decide⟩ (show (parseMethodDescriptor yJx4a65c_get_915e3.desc).map (fun d => d.parameters.length) = some 1 by decide +kernel) (by decide) (by decide) (by decide) (by decide) (Nat.le_of_ble_eq_true rfl) rfl dX0_find_20 rfl ?_
  rintro v9 w2 ⟨rfl, rfl⟩
  show V g k 2 w 0 0 (kQ g k (fun v w' => v = some (.ref (er r)) ∧ w = w') 0 0) 23 [(0, .ref a3), (1, .int (nI r))] [.ref (er r)]
  refine r_castS (q := 26) (t := (2000 + 2 * r)) C koX2 hro q343 rfl dX0_find_23 rfl ?_
  refine r_goto (tgt := 30) C dX0_find_26 (by decide) ?_
  exact r_aret C rfl (Or.inl ⟨_, rfl⟩) (Or.inr ⟨_, rfl⟩) (by decide) (by decide) dX0_find_30 ⟨rfl, rfl⟩

set_option maxHeartbeats 4000000 in
set_option maxRecDepth 20000 in
theorem c_find_n {l : Launch} {g : cx_G} {w : wd_T} {a3 alr asu alv n : Nat} {er ab : Nat → Nat} {by9 rD : Nat → Int32} (hc : ChAt g w a3 alr asu alv n er ab by9 rD) (hn : n ≤ 150) {x : Int32} (hx : x < 0 ∨ nI n ≤ x) : Mt l g yX0_find cX0_find 2 (some (.object "TicketChain$Row")) 3 0 0 w [.ref a3, .int x] (fun v w' => v = some .null ∧ w = w') := by
  refine mt_of RX0 "find" rfl rfl (by decide) (Nat.le_of_ble_eq_true rfl) [(0, .ref a3), (1, .int x)] rfl ?_
  intro k hkl C hin
  subst hkl
  obtain ⟨m9, ae, hls⟩ := (hc.2.1).get
  refine r_iload_n (q := 1) C 1 dX0_find_0 rfl rfl ?_
  refine r_if_lt (q := 4) (tgt := 29) C dX0_find_1 (by decide) rfl (fun hc1 => ?_) (fun hc1 => ?_)
  · refine r_null (q := 30) C dX0_find_29 rfl ?_
    exact r_aret C rfl (Or.inl ⟨_, rfl⟩) (Or.inl rfl) (by decide) (by decide) dX0_find_30 ⟨rfl, rfl⟩
  · refine r_iload_n (q := 5) C 1 dX0_find_4 rfl rfl ?_
    refine r_aload_n (q := 6) C 0 dX0_find_5 rfl rfl ?_
    refine r_get (q := 9) (t := 103) C koX0 hc.1 0 (by decide) q102 rfl rfl dX0_find_6 rfl ?_
    refine r_callV (q := 12) (t := 126) (As := []) (st := [.int x]) C koJx4a65c hls (c_ALsize hc.2.1) q175 q284 q173 q174 q5 rfl ⟨by decide, by decide⟩ (show (parseMethodDescriptor yJx4a65c_size_8abf5.desc).map (fun d => d.parameters.length) = some 0 by decide +kernel) (by decide) (by decide) (by decide) (by decide) (Nat.le_of_ble_eq_true rfl) rfl dX0_find_9 rfl ?_
    rintro v9 w4 ⟨rfl, rfl⟩
    show V g k 2 w 0 0 (kQ g k (fun v w' => v = some .null ∧ w = w') 0 0) 12 [(0, .ref a3), (1, .int x)] [.int (nI n), .int x]
    refine r_icmp_ge_t (tgt := 29) C dX0_find_12 (by decide) (by rcases hx with z | z; exact absurd z hc1; exact z) ?_
    refine r_null (q := 30) C dX0_find_29 rfl ?_
    exact r_aret C rfl (Or.inl ⟨_, rfl⟩) (Or.inl rfl) (by decide) (by decide) dX0_find_30 ⟨rfl, rfl⟩

set_option maxHeartbeats 4000000 in
set_option maxRecDepth 20000 in
theorem c_sumRow0 {l : Launch} {g : cx_G} {w : wd_T} {a3 alr asu alv ar br tr : Nat} {dr nr : Int32} {fb : Nat → Int32} (h3 : w 103 = some (a3, ob 0 [.ref alr, .ref asu, .ref alv])) (hs : SmAt g w asu) (hr0 : w tr = some (ar, ob 2 [.ref br, .int dr, .int nr])) (hr1 : w (tr + 1) = some (br, aB g 73 fb)) (htr : 120 ≤ tr) : Mt l g yX0_sumRow cX0_sumRow 3 none 4 0 0 w [.ref a3, .null, .ref ar] (fun v w' => v = none ∧ SmS g w' asu (sum9 73 (rw9 (fun _ => nI 0) fb)) ∧ Fr w w' 110 114) := by
  refine mt_of RX0 "sumRow" rfl rfl (by decide) (Nat.le_of_ble_eq_true rfl) [(0, .ref a3), (1, .null), (2, .ref ar)] rfl ?_
  intro k hkl C hin
  subst hkl
  obtain ⟨S9, n9, am, aw, as9, msg, wds, sta, s0, s1, s2, s3, s4⟩ := hs
  refine r_aload_n (q := 1) C 0 dX0_sumRow_0 rfl rfl ?_
  refine r_get (q := 4) (t := 103) C koX0 h3 1 (by decide) q103 rfl rfl dX0_sumRow_1 rfl ?_
  refine r_callV (q := 7) (t := 110) (As := []) (st := []) C koX3 s0 (c_start s0) q351 q348 q349 q350 q7 rfl ⟨by decide, by decide⟩ (show (parseMethodDescriptor yX3_start.desc).map (fun d => d.parameters.length) = some 0 by decide +kernel) (by decide) (by decide) (by decide) (by decide) (Nat.le_of_ble_eq_true rfl) rfl dX0_sumRow_4 rfl ?_
  rintro v9 w2 ⟨rfl, e0, ef1⟩
  show V g k 3 w2 0 0 (kQ g k (fun v w' => v = none ∧ SmS g w' asu (sum9 73 (rw9 (fun _ => nI 0) fb)) ∧ Fr w w' 110 114) 0 0) 7 [(0, .ref a3), (1, .null), (2, .ref ar)] []
  refine r_aload_nN (q := 8) C 1 dX0_sumRow_7 rfl rfl ?_
  refine r_ifnonnullN (q := 11) C dX0_sumRow_8 rfl ?_
  refine r_aload_n (q := 12) C 0 dX0_sumRow_11 rfl rfl ?_
  refine r_get (q := 15) (t := 103) C koX0 ((ef1 103 (by omega)).trans h3) 1 (by decide) q103 rfl rfl dX0_sumRow_12 rfl ?_
  refine r_bipush (q := 17) C (nI 32) dX0_sumRow_15 (by decide) rfl ?_
  refine r_callV (q := 20) (t := 110) (As := [.int (nI 32)]) (st := []) C koX3 e0 (c_addZeros e0 ((ef1 111 (by omega)).trans s1) (by decide)) q355 q352 q353 q354 q7 rfl ⟨by decide, by decide⟩ (show (parseMethodDescriptor yX3_addZeros.desc).map (fun d => d.parameters.length) = some 1 by decide +kernel) (by decide) (by decide) (by decide) (by decide) (Nat.le_of_ble_eq_true rfl) rfl dX0_sumRow_17 rfl ?_
  rintro v9 w5 ⟨rfl, e0, e1, ef4⟩
  show V g k 3 w5 0 0 (kQ g k (fun v w' => v = none ∧ SmS g w' asu (sum9 73 (rw9 (fun _ => nI 0) fb)) ∧ Fr w w' 110 114) 0 0) 20 [(0, .ref a3), (1, .null), (2, .ref ar)] []
  refine r_goto (tgt := 38) C dX0_sumRow_20 (by decide) ?_
  refine r_aload_n (q := 39) C 0 dX0_sumRow_38 rfl rfl ?_
  refine r_get (q := 42) (t := 103) C koX0 ((ef4 103 (by omega)).trans ((ef1 103 (by omega)).trans h3)) 1 (by decide) q103 rfl rfl dX0_sumRow_39 rfl ?_
  refine r_aload_n (q := 43) C 2 dX0_sumRow_42 rfl rfl ?_
  refine r_getN (q := 46) (t := tr) C koX2 ((ef4 tr (by omega)).trans ((ef1 tr (by omega)).trans hr0)) 0 (by decide) q319 rfl rfl dX0_sumRow_43 rfl ?_
  refine r_iconst (q := 47) C (nI 0) dX0_sumRow_46 (by decide) rfl ?_
  refine r_bipush (q := 49) C (nI 41) dX0_sumRow_47 (by decide) rfl ?_
  refine r_callV (q := 52) (t := 110) (As := [.ref br, .int (nI 0), .int (nI 41)]) (st := []) C koX3 e0 (c_add e0 e1 ((ef4 (tr + 1) (by omega)).trans ((ef1 (tr + 1) (by omega)).trans hr1)) (by omega) (by decide) (by decide) (by decide)) q363 q360 q361 q362 q7 rfl ⟨by decide, by decide⟩ (show (parseMethodDescriptor yX3_add.desc).map (fun d => d.parameters.length) = some 3 by decide +kernel) (by decide) (by decide) (by decide) (by decide) (Nat.le_of_ble_eq_true rfl) rfl dX0_sumRow_49 rfl ?_
  rintro v9 w8 ⟨rfl, e0, e1, ef7⟩
  show V g k 3 w8 0 0 (kQ g k (fun v w' => v = none ∧ SmS g w' asu (sum9 73 (rw9 (fun _ => nI 0) fb)) ∧ Fr w w' 110 114) 0 0) 52 [(0, .ref a3), (1, .null), (2, .ref ar)] []
  refine r_aload_n (q := 53) C 0 dX0_sumRow_52 rfl rfl ?_
  refine r_get (q := 56) (t := 103) C koX0 ((ef7 103 (by omega)).trans ((ef4 103 (by omega)).trans ((ef1 103 (by omega)).trans h3))) 1 (by decide) q103 rfl rfl dX0_sumRow_53 rfl ?_
  refine r_callV (q := 59) (t := 110) (As := []) (st := []) C koX3 e0 (c_finish (n := 73) (f9 := rw9 (fun _ => nI 0) fb) e0 e1 ((ef7 112 (by omega)).trans ((ef4 112 (by omega)).trans ((ef1 112 (by omega)).trans s2))) ((ef7 113 (by omega)).trans ((ef4 113 (by omega)).trans ((ef1 113 (by omega)).trans s3))) (by decide) (by decide) (rw9_m0 (fun _ _ => rfl))) q367 q364 q365 q366 q7 rfl ⟨by decide, by decide⟩ (show (parseMethodDescriptor yX3_finish.desc).map (fun d => d.parameters.length) = some 0 by decide +kernel) (by decide) (by decide) (by decide) (by decide) (Nat.le_of_ble_eq_true rfl) rfl dX0_sumRow_56 rfl ?_
  rintro v9 w11 ⟨rfl, ⟨msg9, wds9, sta9, e0, e1, e2, e3, e4⟩, ef10⟩
  show V g k 3 w11 0 0 (kQ g k (fun v w' => v = none ∧ SmS g w' asu (sum9 73 (rw9 (fun _ => nI 0) fb)) ∧ Fr w w' 110 114) 0 0) 59 [(0, .ref a3), (1, .null), (2, .ref ar)] []
  exact r_vret C rfl (by decide) (by decide) dX0_sumRow_59 ⟨rfl, ⟨_, _, _, _, _, _, _, e0, e1, e2, e3, e4⟩, (((ef1.mono (by decide) (by decide)).trans (ef4.mono (by decide) (by decide))).trans (ef7.mono (by decide) (by decide))).trans ef10⟩

set_option maxHeartbeats 4000000 in
set_option maxRecDepth 20000 in
theorem c_sumRow1 {l : Launch} {g : cx_G} {w : wd_T} {a3 alr asu alv ar br tr : Nat} {dr nr : Int32} {fb : Nat → Int32} (h3 : w 103 = some (a3, ob 0 [.ref alr, .ref asu, .ref alv])) (hs : SmAt g w asu) (hr0 : w tr = some (ar, ob 2 [.ref br, .int dr, .int nr])) (hr1 : w (tr + 1) = some (br, aB g 73 fb)) (htr : 120 ≤ tr) {ap bp tp : Nat} {dp np : Int32} {fp : Nat → Int32} (hp0 : w tp = some (ap, ob 2 [.ref bp, .int dp, .int np])) (hp1 : w (tp + 1) = some (bp, aB g 73 fp)) (htp : 120 ≤ tp) : Mt l g yX0_sumRow cX0_sumRow 3 none 4 0 0 w [.ref a3, .ref ap, .ref ar] (fun v w' => v = none ∧ SmS g w' asu (sum9 73 (rw9 (fun j => fp (41 + j)) fb)) ∧ Fr w w' 110 114) := by
  refine mt_of RX0 "sumRow" rfl rfl (by decide) (Nat.le_of_ble_eq_true rfl) [(0, .ref a3), (1, .ref ap), (2, .ref ar)] rfl ?_
  intro k hkl C hin
  subst hkl
  obtain ⟨S9, n9, am, aw, as9, msg, wds, sta, s0, s1, s2, s3, s4⟩ := hs
  refine r_aload_n (q := 1) C 0 dX0_sumRow_0 rfl rfl ?_
  refine r_get (q := 4) (t := 103) C koX0 h3 1 (by decide) q103 rfl rfl dX0_sumRow_1 rfl ?_
  refine r_callV (q := 7) (t := 110) (As := []) (st := []) C koX3 s0 (c_start s0) q351 q348 q349 q350 q7 rfl ⟨by decide, by decide⟩ (show (parseMethodDescriptor yX3_start.desc).map (fun d => d.parameters.length) = some 0 by decide +kernel) (by decide) (by decide) (by decide) (by decide) (Nat.le_of_ble_eq_true rfl) rfl dX0_sumRow_4 rfl ?_
  rintro v9 w2 ⟨rfl, e0, ef1⟩
  show V g k 3 w2 0 0 (kQ g k (fun v w' => v = none ∧ SmS g w' asu (sum9 73 (rw9 (fun j => fp (41 + j)) fb)) ∧ Fr w w' 110 114) 0 0) 7 [(0, .ref a3), (1, .ref ap), (2, .ref ar)] []
  refine r_aload_n (q := 8) C 1 dX0_sumRow_7 rfl rfl ?_
  refine r_ifnonnull (tgt := 23) C dX0_sumRow_8 (by decide) ?_
  refine r_aload_n (q := 24) C 0 dX0_sumRow_23 rfl rfl ?_
  refine r_get (q := 27) (t := 103) C koX0 ((ef1 103 (by omega)).trans h3) 1 (by decide) q103 rfl rfl dX0_sumRow_24 rfl ?_
  refine r_aload_n (q := 28) C 1 dX0_sumRow_27 rfl rfl ?_
  refine r_getN (q := 31) (t := tp) C koX2 ((ef1 tp (by omega)).trans hp0) 0 (by decide) q319 rfl rfl dX0_sumRow_28 rfl ?_
  refine r_bipush (q := 33) C (nI 41) dX0_sumRow_31 (by decide) rfl ?_
  refine r_bipush (q := 35) C (nI 32) dX0_sumRow_33 (by decide) rfl ?_
  refine r_callV (q := 38) (t := 110) (As := [.ref bp, .int (nI 41), .int (nI 32)]) (st := []) C koX3 e0 (c_add e0 ((ef1 111 (by omega)).trans s1) ((ef1 (tp + 1) (by omega)).trans hp1) (by omega) (by decide) (by decide) (by decide)) q363 q360 q361 q362 q7 rfl ⟨by decide, by decide⟩ (show (parseMethodDescriptor yX3_add.desc).map (fun d => d.parameters.length) = some 3 by decide +kernel) (by decide) (by decide) (by decide) (by decide) (Nat.le_of_ble_eq_true rfl) rfl dX0_sumRow_35 rfl ?_
  rintro v9 w5 ⟨rfl, e0, e1, ef4⟩
  show V g k 3 w5 0 0 (kQ g k (fun v w' => v = none ∧ SmS g w' asu (sum9 73 (rw9 (fun j => fp (41 + j)) fb)) ∧ Fr w w' 110 114) 0 0) 38 [(0, .ref a3), (1, .ref ap), (2, .ref ar)] []
  refine r_aload_n (q := 39) C 0 dX0_sumRow_38 rfl rfl ?_
  refine r_get (q := 42) (t := 103) C koX0 ((ef4 103 (by omega)).trans ((ef1 103 (by omega)).trans h3)) 1 (by decide) q103 rfl rfl dX0_sumRow_39 rfl ?_
  refine r_aload_n (q := 43) C 2 dX0_sumRow_42 rfl rfl ?_
  refine r_getN (q := 46) (t := tr) C koX2 ((ef4 tr (by omega)).trans ((ef1 tr (by omega)).trans hr0)) 0 (by decide) q319 rfl rfl dX0_sumRow_43 rfl ?_
  refine r_iconst (q := 47) C (nI 0) dX0_sumRow_46 (by decide) rfl ?_
  refine r_bipush (q := 49) C (nI 41) dX0_sumRow_47 (by decide) rfl ?_
  refine r_callV (q := 52) (t := 110) (As := [.ref br, .int (nI 0), .int (nI 41)]) (st := []) C koX3 e0 (c_add e0 e1 ((ef4 (tr + 1) (by omega)).trans ((ef1 (tr + 1) (by omega)).trans hr1)) (by omega) (by decide) (by decide) (by decide)) q363 q360 q361 q362 q7 rfl ⟨by decide, by decide⟩ (show (parseMethodDescriptor yX3_add.desc).map (fun d => d.parameters.length) = some 3 by decide +kernel) (by decide) (by decide) (by decide) (by decide) (Nat.le_of_ble_eq_true rfl) rfl dX0_sumRow_49 rfl ?_
  rintro v9 w8 ⟨rfl, e0, e1, ef7⟩
  show V g k 3 w8 0 0 (kQ g k (fun v w' => v = none ∧ SmS g w' asu (sum9 73 (rw9 (fun j => fp (41 + j)) fb)) ∧ Fr w w' 110 114) 0 0) 52 [(0, .ref a3), (1, .ref ap), (2, .ref ar)] []
  refine r_aload_n (q := 53) C 0 dX0_sumRow_52 rfl rfl ?_
  refine r_get (q := 56) (t := 103) C koX0 ((ef7 103 (by omega)).trans ((ef4 103 (by omega)).trans ((ef1 103 (by omega)).trans h3))) 1 (by decide) q103 rfl rfl dX0_sumRow_53 rfl ?_
  refine r_callV (q := 59) (t := 110) (As := []) (st := []) C koX3 e0 (c_finish (n := 73) (f9 := rw9 (fun j => fp (41 + j)) fb) e0 e1 ((ef7 112 (by omega)).trans ((ef4 112 (by omega)).trans ((ef1 112 (by omega)).trans s2))) ((ef7 113 (by omega)).trans ((ef4 113 (by omega)).trans ((ef1 113 (by omega)).trans s3))) (by decide) (by decide) (rw9_m0 (fun _ _ => rfl))) q367 q364 q365 q366 q7 rfl ⟨by decide, by decide⟩ (show (parseMethodDescriptor yX3_finish.desc).map (fun d => d.parameters.length) = some 0 by decide +kernel) (by decide) (by decide) (by decide) (by decide) (Nat.le_of_ble_eq_true rfl) rfl dX0_sumRow_56 rfl ?_
  rintro v9 w11 ⟨rfl, ⟨msg9, wds9, sta9, e0, e1, e2, e3, e4⟩, ef10⟩
  show V g k 3 w11 0 0 (kQ g k (fun v w' => v = none ∧ SmS g w' asu (sum9 73 (rw9 (fun j => fp (41 + j)) fb)) ∧ Fr w w' 110 114) 0 0) 59 [(0, .ref a3), (1, .ref ap), (2, .ref ar)] []
  exact r_vret C rfl (by decide) (by decide) dX0_sumRow_59 ⟨rfl, ⟨_, _, _, _, _, _, _, e0, e1, e2, e3, e4⟩, (((ef1.mono (by decide) (by decide)).trans (ef4.mono (by decide) (by decide))).trans (ef7.mono (by decide) (by decide))).trans ef10⟩
