/-! Chain: append, firstBroken -/
def pd9 (by9 : Nat → Int32) (n : Nat) : Nat → Int32 := fun j => if n = 0 then nI 0 else by9 (73 * (n - 1) + 41 + j)
/-- the rows' bytes with a new row n, closed, whose first 41 bytes are fb -/
def apR (by9 : Nat → Int32) (n : Nat) (fb : Nat → Int32) : Nat → Int32 := fun p => if 73 * n ≤ p ∧ p < 73 * n + 73 then cpF fb 41 32 (sum9 73 (rw9 (pd9 by9 n) fb)) (p - 73 * n) else by9 p
theorem apR_in {by9 fb : Nat → Int32} {n j : Nat} (hj : j < 73) : apR by9 n fb (73 * n + j) = cpF fb 41 32 (sum9 73 (rw9 (pd9 by9 n) fb)) j := by
  unfold apR
  rw [if_pos (by omega), Nat.add_sub_cancel_left]
theorem apR_old {by9 fb : Nat → Int32} {n r j : Nat} (hr : r < n) (hj : j < 73) : apR by9 n fb (73 * r + j) = by9 (73 * r + j) := by
  unfold apR
  rw [if_neg (by omega)]
theorem cpF_congr {f S T : Nat → Int32} {fr j : Nat} (h : ∀ j, j < 8 → S j = T j) : cpF f fr 32 S j = cpF f fr 32 T j := by
  unfold cpF
  by_cases q : fr ≤ j ∧ j < fr + 32
  · rw [if_pos q, if_pos q, dig9_congr h (by omega)]
  · rw [if_neg q, if_neg q]
theorem RwAt.kept {g : cx_G} {w w' : wd_T} {n : Nat} {er ab : Nat → Nat} {by9 rD : Nat → Int32} (h : RwAt g w n er ab by9 rD) (e : ∀ t, 2000 ≤ t → t < 2000 + 2 * n → w' t = w t) : RwAt g w' n er ab by9 rD := by
  intro r hr
  obtain ⟨⟨wr, h1⟩, fb, h2, h3⟩ := h r hr
  exact ⟨⟨wr, (e _ (by omega) (by omega)).trans h1⟩, fb, (e _ (by omega) (by omega)).trans h2, h3⟩
theorem LsAt.keptR {g : cx_G} {w w' : wd_T} {al n : Nat} {er : Nat → Nat} (h : LsAt g w 126 al n er (fun j => 2000 + 2 * j)) (e0 : w' 126 = w 126) (e1 : w' 127 = w 127) (e2 : ∀ j, j < n → w' (2000 + 2 * j) = w (2000 + 2 * j)) : LsAt g w' 126 al n er (fun j => 2000 + 2 * j) := h.kept e0 e1 (fun j hj q => q.kept (e2 j hj))
theorem ChAt.frS {g : cx_G} {w w' : wd_T} {a3 alr asu alv n : Nat} {er ab : Nat → Nat} {by9 rD : Nat → Int32} (h : ChAt g w a3 alr asu alv n er ab by9 rD) (hf : Fr w w' 110 114) (hs : SmAt g w' asu) : ChAt g w' a3 alr asu alv n er ab by9 rD := by
  obtain ⟨h1, h2, h3, -, lev, h5, h6⟩ := h
  exact ⟨(hf _ (by decide)).trans h1, h2.keptR (hf _ (by decide)) (hf _ (by decide)) (fun j hj => hf _ (by omega)), h3.kept (fun t a b => hf t (by omega)), hs, lev, (hf _ (by decide)).trans h5, h6⟩
set_option maxHeartbeats 4000000 in
set_option maxRecDepth 20000 in
theorem c_append0 {l : Launch} {g : cx_G} {w : wd_T} {a3 alr asu alv : Nat} {er ab : Nat → Nat} {by9 rD : Nat → Int32} (hc : ChAt g w a3 alr asu alv 0 er ab by9 rD) (hn : 0 ≤ 150) {ar br : Nat} {dy nr : Int32} {fb : Nat → Int32} (hr0 : w (2000 + 2 * 0) = some (ar, ob 2 [.ref br, .int dy, .int nr])) (hr1 : w (2001 + 2 * 0) = some (br, aB g 73 fb)) : Mt l g yX0_append cX0_append 2 (some .int) 7 1 460 w [.ref a3, .ref ar] (fun v w' => v = some (.int (nI 0)) ∧ ChAt g w' a3 alr asu alv (0 + 1) (va_up er 0 ar) (va_up ab 0 br) (apR by9 0 fb) (upd rD 0 dy) ∧ ∀ t, (t < 110 ∨ 114 ≤ t) → (t < 126 ∨ 129 ≤ t) → t ≠ 2001 + 2 * 0 → w' t = w t) := by
  refine mt_of RX0 "append" rfl rfl (by decide) (Nat.le_of_ble_eq_true rfl) [(0, .ref a3), (1, .ref ar)] rfl ?_
  intro k hkl C hin
  subst hkl
  obtain ⟨m9, ae, hls⟩ := (hc.2.1).get
  refine r_aload_n (q := 1) C 0 dX0_append_0 rfl rfl ?_
  refine r_aload_n (q := 2) C 0 dX0_append_1 rfl rfl ?_
  refine r_aload_n (q := 3) C 0 dX0_append_2 rfl rfl ?_
  refine r_get (q := 6) (t := 103) C koX0 hc.1 0 (by decide) q102 rfl rfl dX0_append_3 rfl ?_
  refine r_callV (q := 9) (t := 126) (As := []) (st := [.ref a3, .ref a3]) C koJx4a65c hls (c_ALsize hc.2.1) q175 q284 q173 q174 q5 rfl ⟨by decide, by decide⟩ (show (parseMethodDescriptor yJx4a65c_size_8abf5.desc).map (fun d => d.parameters.length) = some 0 by decide +kernel) (by decide) (by decide) (by decide) (by decide) (Nat.le_of_ble_eq_true rfl) rfl dX0_append_6 rfl ?_
  rintro v9 w1 ⟨rfl, rfl⟩
  show V g k 2 w 0 0 (kQ g k (fun v w' => v = some (.int (nI 0)) ∧ ChAt g w' a3 alr asu alv (0 + 1) (va_up er 0 ar) (va_up ab 0 br) (apR by9 0 fb) (upd rD 0 dy) ∧ ∀ t, (t < 110 ∨ 114 ≤ t) → (t < 126 ∨ 129 ≤ t) → t ≠ 2001 + 2 * 0 → w' t = w t) 1 460) 9 [(0, .ref a3), (1, .ref ar)] [.int (nI 0), .ref a3, .ref a3]
  refine r_iconst (q := 10) C (nI 1) dX0_append_9 (by decide) rfl ?_
  refine r_isub (q := 11) C dX0_append_10 rfl ?_
  refine r_ti (show ((nI 0) - (nI 1) : Int32) = (-1) from by decide) ?_
  refine r_callV (q := 14) (t := 103) (As := [.int (-1)]) (st := [.ref a3]) C koX0 hc.1 (c_find_n hc hn (x := -1) (Or.inl (by decide))) q341 q338 q339 q340 q6 rfl ⟨by decide, by decide⟩ (show (parseMethodDescriptor yX0_find.desc).map (fun d => d.parameters.length) = some 1 by decide +kernel) (by decide) (by decide) (by decide) (by decide) (Nat.le_of_ble_eq_true rfl) rfl dX0_append_11 rfl ?_
  rintro v9 w2 ⟨rfl, rfl⟩
  show V g k 2 w 0 0 (kQ g k (fun v w' => v = some (.int (nI 0)) ∧ ChAt g w' a3 alr asu alv (0 + 1) (va_up er 0 ar) (va_up ab 0 br) (apR by9 0 fb) (upd rD 0 dy) ∧ ∀ t, (t < 110 ∨ 114 ≤ t) → (t < 126 ∨ 129 ≤ t) → t ≠ 2001 + 2 * 0 → w' t = w t) 1 460) 14 [(0, .ref a3), (1, .ref ar)] [.null, .ref a3]
  refine r_aload_n (q := 15) C 1 dX0_append_14 rfl rfl ?_
  have hr1' := hr1
  rw [show 2001 + 2 * 0 = 2000 + 2 * 0 + 1 by omega] at hr1'
  refine r_callV (q := 18) (t := 103) (As := [.null, .ref ar]) (st := []) C koX0 hc.1 (c_sumRow0 hc.1 hc.2.2.2.1 hr0 hr1' (by omega)) q347 q344 q346 qp5 q6 rfl ⟨by decide, by decide⟩ (show (parseMethodDescriptor yX0_sumRow.desc).map (fun d => d.parameters.length) = some 2 by decide +kernel) (by decide) (by decide) (by decide) (by decide) (Nat.le_of_ble_eq_true rfl) rfl dX0_append_15 rfl ?_
  rintro v9 w5 ⟨rfl, ⟨n8, am8, aw8, as8, msg8, wds8, sta8, s0, s1, s2, s3, s4⟩, ef5⟩
  show V g k 2 w5 0 0 (kQ g k (fun v w' => v = some (.int (nI 0)) ∧ ChAt g w' a3 alr asu alv (0 + 1) (va_up er 0 ar) (va_up ab 0 br) (apR by9 0 fb) (upd rD 0 dy) ∧ ∀ t, (t < 110 ∨ 114 ≤ t) → (t < 126 ∨ 129 ≤ t) → t ≠ 2001 + 2 * 0 → w' t = w t) 1 460) 18 [(0, .ref a3), (1, .ref ar)] []
  refine r_aload_n (q := 19) C 0 dX0_append_18 rfl rfl ?_
  refine r_get (q := 22) (t := 103) C koX0 ((ef5 103 (by omega)).trans hc.1) 1 (by decide) q103 rfl rfl dX0_append_19 rfl ?_
  refine r_aload_n (q := 23) C 1 dX0_append_22 rfl rfl ?_
  refine r_getN (q := 26) (t := (2000 + 2 * 0)) C koX2 ((ef5 (2000 + 2 * 0) (by omega)).trans hr0) 0 (by decide) q319 rfl rfl dX0_append_23 rfl ?_
  refine r_bipush (q := 28) C (nI 41) dX0_append_26 (by decide) rfl ?_
  refine r_callV (q := 31) (t := 110) (As := [.ref br, .int (nI 41)]) (st := []) C koX3 s0 (c_copyTo s0 s3 ((ef5 (2001 + 2 * 0) (by omega)).trans hr1) (by omega) (by decide) (by decide)) q394 q391 q392 q393 q7 rfl ⟨by decide, by decide⟩ (show (parseMethodDescriptor yX3_copyTo.desc).map (fun d => d.parameters.length) = some 2 by decide +kernel) (by decide) (by decide) (by decide) (by decide) (Nat.le_of_ble_eq_true rfl) rfl dX0_append_28 rfl ?_
  rintro v9 w6 ⟨rfl, b6, ef6⟩
  show V g k 2 w6 0 0 (kQ g k (fun v w' => v = some (.int (nI 0)) ∧ ChAt g w' a3 alr asu alv (0 + 1) (va_up er 0 ar) (va_up ab 0 br) (apR by9 0 fb) (upd rD 0 dy) ∧ ∀ t, (t < 110 ∨ 114 ≤ t) → (t < 126 ∨ 129 ≤ t) → t ≠ 2001 + 2 * 0 → w' t = w t) 1 460) 31 [(0, .ref a3), (1, .ref ar)] []
  have k6 : ∀ t, (t < 110 ∨ 114 ≤ t) → t ≠ 2001 + 2 * 0 → w6 t = w t := fun t a b => (ef6 t (by omega)).trans (ef5 t (by omega))
  have l6 : LsAt g w6 126 alr 0 er (fun j => 2000 + 2 * j) := hc.2.1.keptR (k6 _ (by omega) (by omega)) (k6 _ (by omega) (by omega)) (fun j hj => k6 _ (by omega) (by omega))
  have r6 : w6 (2000 + 2 * 0) = some (ar, ob 2 [.ref br, .int dy, .int nr]) := (k6 _ (by omega) (by omega)).trans hr0
  refine r_aload_n (q := 32) C 0 dX0_append_31 rfl rfl ?_
  refine r_get (q := 35) (t := 103) C koX0 ((ef6 103 (by omega)).trans ((ef5 103 (by omega)).trans hc.1)) 0 (by decide) q102 rfl rfl dX0_append_32 rfl ?_
  refine r_aload_n (q := 36) C 1 dX0_append_35 rfl rfl ?_
  refine r_callV (q := 39) (t := 126) (As := [.ref ar]) (st := []) C koJx4a65c ((ef6 126 (by omega)).trans ((ef5 126 (by omega)).trans hls)) (c_ALadd (tx := 2000 + 2 * 0) l6 (by omega) ⟨2, 3, _, _, _, _, r6, koX2, q942⟩ (by omega)) q212 q399 q210 q211 q5 rfl ⟨by decide, by decide⟩ (show (parseMethodDescriptor yJx4a65c_add_9ea2d.desc).map (fun d => d.parameters.length) = some 1 by decide +kernel) (by decide) (by decide) (by decide) (by decide) (Nat.le_of_ble_eq_true rfl) rfl dX0_append_36 rfl ?_
  rintro v9 w7 ⟨rfl, l7, ef7⟩
  have e7 : va_up (fun j => 2000 + 2 * j) 0 (2000 + 2 * 0) = (fun j => 2000 + 2 * j) := by
    funext j
    unfold va_up
    by_cases z : j = 0
    · rw [if_pos z, z]
    · rw [if_neg z]
  rw [e7] at l7
  obtain ⟨m7, ae7, hls7⟩ := l7.get
  show V g k 2 w7 1 460 (kQ g k (fun v w' => v = some (.int (nI 0)) ∧ ChAt g w' a3 alr asu alv (0 + 1) (va_up er 0 ar) (va_up ab 0 br) (apR by9 0 fb) (upd rD 0 dy) ∧ ∀ t, (t < 110 ∨ 114 ≤ t) → (t < 126 ∨ 129 ≤ t) → t ≠ 2001 + 2 * 0 → w' t = w t) 1 460) 39 [(0, .ref a3), (1, .ref ar)] [.int (nI 1)]
  refine r_pop (q := 40) C dX0_append_39 rfl rfl ?_
  refine r_aload_n (q := 41) C 0 dX0_append_40 rfl rfl ?_
  refine r_get (q := 44) (t := 103) C koX0 ((ef7 103 (by omega)).trans ((ef6 103 (by omega)).trans ((ef5 103 (by omega)).trans hc.1))) 0 (by decide) q102 rfl rfl dX0_append_41 rfl ?_
  refine r_callV (q := 47) (t := 126) (As := []) (st := []) C koJx4a65c hls7 (c_ALsize l7) q175 q284 q173 q174 q5 rfl ⟨by decide, by decide⟩ (show (parseMethodDescriptor yJx4a65c_size_8abf5.desc).map (fun d => d.parameters.length) = some 0 by decide +kernel) (by decide) (by decide) (by decide) (by decide) (Nat.le_of_ble_eq_true rfl) rfl dX0_append_44 rfl ?_
  rintro v9 w6 ⟨rfl, rfl⟩
  show V g k 2 w7 1 460 (kQ g k (fun v w' => v = some (.int (nI 0)) ∧ ChAt g w' a3 alr asu alv (0 + 1) (va_up er 0 ar) (va_up ab 0 br) (apR by9 0 fb) (upd rD 0 dy) ∧ ∀ t, (t < 110 ∨ 114 ≤ t) → (t < 126 ∨ 129 ≤ t) → t ≠ 2001 + 2 * 0 → w' t = w t) 1 460) 47 [(0, .ref a3), (1, .ref ar)] [.int (nI (0 + 1))]
  refine r_iconst (q := 48) C (nI 1) dX0_append_47 (by decide) rfl ?_
  refine r_isub (q := 49) C dX0_append_48 rfl ?_
  refine r_ti (show ((nI (0 + 1)) - (nI 1) : Int32) = nI 0 from nI_pred 0) ?_
  have k7 : ∀ t, (t < 110 ∨ 114 ≤ t) → (t < 126 ∨ 129 ≤ t) → t ≠ 2001 + 2 * 0 → w7 t = w t := fun t a b c => (ef7 t (by omega)).trans (k6 t a c)
  have es : sum9 73 (rw9 (fun _ => nI 0) fb) = sum9 73 (rw9 (pd9 by9 0) fb) := rw9_congr (fun j hj => rfl) (fun _ _ => rfl)
  rw [es] at s4
  refine r_iret C rfl (by decide) (by decide) dX0_append_49 ⟨rfl, ⟨(k7 _ (by omega) (by omega) (by omega)).trans hc.1, l7, ?_, ?_, ?_⟩, k7⟩
  · intro r hr
    by_cases z : r = 0
    · subst z
      refine ⟨⟨nr, ?_⟩, cpF fb 41 32 sta8, ?_, ?_⟩
      · rw [vup_eq, vup_eq, pk_us]; exact (k7 _ (by omega) (by omega) (by omega)).trans hr0
      · rw [vup_eq]; exact (ef7 _ (by omega)).trans b6
      · intro j hj
        rw [apR_in hj]
        exact cpF_congr s4
    · obtain ⟨⟨wr, q1⟩, f0, q2, q3⟩ := hc.2.2.1 r (by omega)
      refine ⟨⟨wr, ?_⟩, f0, ?_, ?_⟩
      · rw [vup_ne z, vup_ne z, pk_un z]; exact (k7 _ (by omega) (by omega) (by omega)).trans q1
      · rw [vup_ne z]; exact (k7 _ (by omega) (by omega) (by omega)).trans q2
      · intro j hj
        rw [apR_old (by omega) hj]
        exact q3 j hj
  · exact SmAt.kept ⟨_, _, _, _, _, _, _, _, s0, s1, s2, s3, s4⟩ (fun t a b => (ef7 t (by omega)).trans (ef6 t (by omega)))
  · obtain ⟨lev, q1, q2⟩ := hc.2.2.2.2
    exact ⟨lev, (k7 _ (by omega) (by omega) (by omega)).trans q1, q2⟩

set_option maxHeartbeats 4000000 in
set_option maxRecDepth 20000 in
theorem c_appendm {l : Launch} {g : cx_G} {w : wd_T} {a3 alr asu alv m : Nat} {er ab : Nat → Nat} {by9 rD : Nat → Int32} (hc : ChAt g w a3 alr asu alv (m + 1) er ab by9 rD) (hn : (m + 1) ≤ 150) {ar br : Nat} {dy nr : Int32} {fb : Nat → Int32} (hr0 : w (2000 + 2 * (m + 1)) = some (ar, ob 2 [.ref br, .int dy, .int nr])) (hr1 : w (2001 + 2 * (m + 1)) = some (br, aB g 73 fb)) : Mt l g yX0_append cX0_append 2 (some .int) 7 1 460 w [.ref a3, .ref ar] (fun v w' => v = some (.int (nI (m + 1))) ∧ ChAt g w' a3 alr asu alv (m + 1 + 1) (va_up er (m + 1) ar) (va_up ab (m + 1) br) (apR by9 (m + 1) fb) (upd rD (m + 1) dy) ∧ ∀ t, (t < 110 ∨ 114 ≤ t) → (t < 126 ∨ 129 ≤ t) → t ≠ 2001 + 2 * (m + 1) → w' t = w t) := by
  refine mt_of RX0 "append" rfl rfl (by decide) (Nat.le_of_ble_eq_true rfl) [(0, .ref a3), (1, .ref ar)] rfl ?_
  intro k hkl C hin
  subst hkl
  obtain ⟨m9, ae, hls⟩ := (hc.2.1).get
  refine r_aload_n (q := 1) C 0 dX0_append_0 rfl rfl ?_
  refine r_aload_n (q := 2) C 0 dX0_append_1 rfl rfl ?_
  refine r_aload_n (q := 3) C 0 dX0_append_2 rfl rfl ?_
  refine r_get (q := 6) (t := 103) C koX0 hc.1 0 (by decide) q102 rfl rfl dX0_append_3 rfl ?_
  refine r_callV (q := 9) (t := 126) (As := []) (st := [.ref a3, .ref a3]) C koJx4a65c hls (c_ALsize hc.2.1) q175 q284 q173 q174 q5 rfl ⟨by decide, by decide⟩ (show (parseMethodDescriptor yJx4a65c_size_8abf5.desc).map (fun d => d.parameters.length) = some 0 by decide +kernel) (by decide) (by decide) (by decide) (by decide) (Nat.le_of_ble_eq_true rfl) rfl dX0_append_6 rfl ?_
  rintro v9 w1 ⟨rfl, rfl⟩
  show V g k 2 w 0 0 (kQ g k (fun v w' => v = some (.int (nI (m + 1))) ∧ ChAt g w' a3 alr asu alv (m + 1 + 1) (va_up er (m + 1) ar) (va_up ab (m + 1) br) (apR by9 (m + 1) fb) (upd rD (m + 1) dy) ∧ ∀ t, (t < 110 ∨ 114 ≤ t) → (t < 126 ∨ 129 ≤ t) → t ≠ 2001 + 2 * (m + 1) → w' t = w t) 1 460) 9 [(0, .ref a3), (1, .ref ar)] [.int (nI (m + 1)), .ref a3, .ref a3]
  refine r_iconst (q := 10) C (nI 1) dX0_append_9 (by decide) rfl ?_
  refine r_isub (q := 11) C dX0_append_10 rfl ?_
  refine r_ti (show ((nI (m + 1)) - (nI 1) : Int32) = nI m from nI_pred m) ?_
  refine r_callV (q := 14) (t := 103) (As := [.int (nI m)]) (st := [.ref a3]) C koX0 hc.1 (c_find_y hc hn (Nat.lt_succ_self m)) q341 q338 q339 q340 q6 rfl ⟨by decide, by decide⟩ (show (parseMethodDescriptor yX0_find.desc).map (fun d => d.parameters.length) = some 1 by decide +kernel) (by decide) (by decide) (by decide) (by decide) (Nat.le_of_ble_eq_true rfl) rfl dX0_append_11 rfl ?_
  rintro v9 w2 ⟨rfl, rfl⟩
  show V g k 2 w 0 0 (kQ g k (fun v w' => v = some (.int (nI (m + 1))) ∧ ChAt g w' a3 alr asu alv (m + 1 + 1) (va_up er (m + 1) ar) (va_up ab (m + 1) br) (apR by9 (m + 1) fb) (upd rD (m + 1) dy) ∧ ∀ t, (t < 110 ∨ 114 ≤ t) → (t < 126 ∨ 129 ≤ t) → t ≠ 2001 + 2 * (m + 1) → w' t = w t) 1 460) 14 [(0, .ref a3), (1, .ref ar)] [.ref (er m), .ref a3]
  obtain ⟨⟨wp, hp0⟩, fp, hp1, hp2⟩ := hc.2.2.1 m (Nat.lt_succ_self m)
  refine r_aload_n (q := 15) C 1 dX0_append_14 rfl rfl ?_
  have hr1' := hr1
  rw [show 2001 + 2 * (m + 1) = 2000 + 2 * (m + 1) + 1 by omega] at hr1'
  have hp1' := hp1
  rw [show 2001 + 2 * m = 2000 + 2 * m + 1 by omega] at hp1'
  refine r_callV (q := 18) (t := 103) (As := [.ref (er m), .ref ar]) (st := []) C koX0 hc.1 (c_sumRow1 hc.1 hc.2.2.2.1 hr0 hr1' (by omega) hp0 hp1' (by omega)) q347 q344 q346 qp5 q6 rfl ⟨by decide, by decide⟩ (show (parseMethodDescriptor yX0_sumRow.desc).map (fun d => d.parameters.length) = some 2 by decide +kernel) (by decide) (by decide) (by decide) (by decide) (Nat.le_of_ble_eq_true rfl) rfl dX0_append_15 rfl ?_
  rintro v9 w5 ⟨rfl, ⟨n8, am8, aw8, as8, msg8, wds8, sta8, s0, s1, s2, s3, s4⟩, ef5⟩
  show V g k 2 w5 0 0 (kQ g k (fun v w' => v = some (.int (nI (m + 1))) ∧ ChAt g w' a3 alr asu alv (m + 1 + 1) (va_up er (m + 1) ar) (va_up ab (m + 1) br) (apR by9 (m + 1) fb) (upd rD (m + 1) dy) ∧ ∀ t, (t < 110 ∨ 114 ≤ t) → (t < 126 ∨ 129 ≤ t) → t ≠ 2001 + 2 * (m + 1) → w' t = w t) 1 460) 18 [(0, .ref a3), (1, .ref ar)] []
  refine r_aload_n (q := 19) C 0 dX0_append_18 rfl rfl ?_
  refine r_get (q := 22) (t := 103) C koX0 ((ef5 103 (by omega)).trans hc.1) 1 (by decide) q103 rfl rfl dX0_append_19 rfl ?_
  refine r_aload_n (q := 23) C 1 dX0_append_22 rfl rfl ?_
  refine r_getN (q := 26) (t := (2000 + 2 * (m + 1))) C koX2 ((ef5 (2000 + 2 * (m + 1)) (by omega)).trans hr0) 0 (by decide) q319 rfl rfl dX0_append_23 rfl ?_
  refine r_bipush (q := 28) C (nI 41) dX0_append_26 (by decide) rfl ?_
  refine r_callV (q := 31) (t := 110) (As := [.ref br, .int (nI 41)]) (st := []) C koX3 s0 (c_copyTo s0 s3 ((ef5 (2001 + 2 * (m + 1)) (by omega)).trans hr1) (by omega) (by decide) (by decide)) q394 q391 q392 q393 q7 rfl ⟨by decide, by decide⟩ (show (parseMethodDescriptor yX3_copyTo.desc).map (fun d => d.parameters.length) = some 2 by decide +kernel) (by decide) (by decide) (by decide) (by decide) (Nat.le_of_ble_eq_true rfl) rfl dX0_append_28 rfl ?_
  rintro v9 w6 ⟨rfl, b6, ef6⟩
  show V g k 2 w6 0 0 (kQ g k (fun v w' => v = some (.int (nI (m + 1))) ∧ ChAt g w' a3 alr asu alv (m + 1 + 1) (va_up er (m + 1) ar) (va_up ab (m + 1) br) (apR by9 (m + 1) fb) (upd rD (m + 1) dy) ∧ ∀ t, (t < 110 ∨ 114 ≤ t) → (t < 126 ∨ 129 ≤ t) → t ≠ 2001 + 2 * (m + 1) → w' t = w t) 1 460) 31 [(0, .ref a3), (1, .ref ar)] []
  have k6 : ∀ t, (t < 110 ∨ 114 ≤ t) → t ≠ 2001 + 2 * (m + 1) → w6 t = w t := fun t a b => (ef6 t (by omega)).trans (ef5 t (by omega))
  have l6 : LsAt g w6 126 alr (m + 1) er (fun j => 2000 + 2 * j) := hc.2.1.keptR (k6 _ (by omega) (by omega)) (k6 _ (by omega) (by omega)) (fun j hj => k6 _ (by omega) (by omega))
  have r6 : w6 (2000 + 2 * (m + 1)) = some (ar, ob 2 [.ref br, .int dy, .int nr]) := (k6 _ (by omega) (by omega)).trans hr0
  refine r_aload_n (q := 32) C 0 dX0_append_31 rfl rfl ?_
  refine r_get (q := 35) (t := 103) C koX0 ((ef6 103 (by omega)).trans ((ef5 103 (by omega)).trans hc.1)) 0 (by decide) q102 rfl rfl dX0_append_32 rfl ?_
  refine r_aload_n (q := 36) C 1 dX0_append_35 rfl rfl ?_
  refine r_callV (q := 39) (t := 126) (As := [.ref ar]) (st := []) C koJx4a65c ((ef6 126 (by omega)).trans ((ef5 126 (by omega)).trans hls)) (c_ALadd (tx := 2000 + 2 * (m + 1)) l6 (by omega) ⟨2, 3, _, _, _, _, r6, koX2, q942⟩ (by omega)) q212 q399 q210 q211 q5 rfl ⟨by decide, by decide⟩ (show (parseMethodDescriptor yJx4a65c_add_9ea2d.desc).map (fun d => d.parameters.length) = some 1 by decide +kernel) (by decide) (by decide) (by decide) (by decide) (Nat.le_of_ble_eq_true rfl) rfl dX0_append_36 rfl ?_
  rintro v9 w7 ⟨rfl, l7, ef7⟩
  have e7 : va_up (fun j => 2000 + 2 * j) (m + 1) (2000 + 2 * (m + 1)) = (fun j => 2000 + 2 * j) := by
    funext j
    unfold va_up
    by_cases z : j = (m + 1)
    · rw [if_pos z, z]
    · rw [if_neg z]
  rw [e7] at l7
  obtain ⟨m7, ae7, hls7⟩ := l7.get
  show V g k 2 w7 1 460 (kQ g k (fun v w' => v = some (.int (nI (m + 1))) ∧ ChAt g w' a3 alr asu alv (m + 1 + 1) (va_up er (m + 1) ar) (va_up ab (m + 1) br) (apR by9 (m + 1) fb) (upd rD (m + 1) dy) ∧ ∀ t, (t < 110 ∨ 114 ≤ t) → (t < 126 ∨ 129 ≤ t) → t ≠ 2001 + 2 * (m + 1) → w' t = w t) 1 460) 39 [(0, .ref a3), (1, .ref ar)] [.int (nI 1)]
  refine r_pop (q := 40) C dX0_append_39 rfl rfl ?_
  refine r_aload_n (q := 41) C 0 dX0_append_40 rfl rfl ?_
  refine r_get (q := 44) (t := 103) C koX0 ((ef7 103 (by omega)).trans ((ef6 103 (by omega)).trans ((ef5 103 (by omega)).trans hc.1))) 0 (by decide) q102 rfl rfl dX0_append_41 rfl ?_
  refine r_callV (q := 47) (t := 126) (As := []) (st := []) C koJx4a65c hls7 (c_ALsize l7) q175 q284 q173 q174 q5 rfl ⟨by decide, by decide⟩ (show (parseMethodDescriptor yJx4a65c_size_8abf5.desc).map (fun d => d.parameters.length) = some 0 by decide +kernel) (by decide) (by decide) (by decide) (by decide) (Nat.le_of_ble_eq_true rfl) rfl dX0_append_44 rfl ?_
  rintro v9 w6 ⟨rfl, rfl⟩
  show V g k 2 w7 1 460 (kQ g k (fun v w' => v = some (.int (nI (m + 1))) ∧ ChAt g w' a3 alr asu alv (m + 1 + 1) (va_up er (m + 1) ar) (va_up ab (m + 1) br) (apR by9 (m + 1) fb) (upd rD (m + 1) dy) ∧ ∀ t, (t < 110 ∨ 114 ≤ t) → (t < 126 ∨ 129 ≤ t) → t ≠ 2001 + 2 * (m + 1) → w' t = w t) 1 460) 47 [(0, .ref a3), (1, .ref ar)] [.int (nI (m + 1 + 1))]
  refine r_iconst (q := 48) C (nI 1) dX0_append_47 (by decide) rfl ?_
  refine r_isub (q := 49) C dX0_append_48 rfl ?_
  refine r_ti (show ((nI (m + 1 + 1)) - (nI 1) : Int32) = nI (m + 1) from nI_pred (m + 1)) ?_
  have k7 : ∀ t, (t < 110 ∨ 114 ≤ t) → (t < 126 ∨ 129 ≤ t) → t ≠ 2001 + 2 * (m + 1) → w7 t = w t := fun t a b c => (ef7 t (by omega)).trans (k6 t a c)
  have es : sum9 73 (rw9 (fun j => fp (41 + j)) fb) = sum9 73 (rw9 (pd9 by9 (m + 1)) fb) := rw9_congr (fun j hj => by
    show fp (41 + j) = pd9 by9 (m + 1) j
    unfold pd9
    rw [if_neg (by omega), hp2 _ (by omega)]
    congr 1
    omega) (fun _ _ => rfl)
  rw [es] at s4
  refine r_iret C rfl (by decide) (by decide) dX0_append_49 ⟨rfl, ⟨(k7 _ (by omega) (by omega) (by omega)).trans hc.1, l7, ?_, ?_, ?_⟩, k7⟩
  · intro r hr
    by_cases z : r = (m + 1)
    · subst z
      refine ⟨⟨nr, ?_⟩, cpF fb 41 32 sta8, ?_, ?_⟩
      · rw [vup_eq, vup_eq, pk_us]; exact (k7 _ (by omega) (by omega) (by omega)).trans hr0
      · rw [vup_eq]; exact (ef7 _ (by omega)).trans b6
      · intro j hj
        rw [apR_in hj]
        exact cpF_congr s4
    · obtain ⟨⟨wr, q1⟩, f0, q2, q3⟩ := hc.2.2.1 r (by omega)
      refine ⟨⟨wr, ?_⟩, f0, ?_, ?_⟩
      · rw [vup_ne z, vup_ne z, pk_un z]; exact (k7 _ (by omega) (by omega) (by omega)).trans q1
      · rw [vup_ne z]; exact (k7 _ (by omega) (by omega) (by omega)).trans q2
      · intro j hj
        rw [apR_old (by omega) hj]
        exact q3 j hj
  · exact SmAt.kept ⟨_, _, _, _, _, _, _, _, s0, s1, s2, s3, s4⟩ (fun t a b => (ef7 t (by omega)).trans (ef6 t (by omega)))
  · obtain ⟨lev, q1, q2⟩ := hc.2.2.2.2
    exact ⟨lev, (k7 _ (by omega) (by omega) (by omega)).trans q1, q2⟩

theorem c_append {l : Launch} {g : cx_G} {w : wd_T} {a3 alr asu alv n : Nat} {er ab : Nat → Nat} {by9 rD : Nat → Int32} (hc : ChAt g w a3 alr asu alv n er ab by9 rD) (hn : n ≤ 150) {ar br : Nat} {dy nr : Int32} {fb : Nat → Int32} (hr0 : w (2000 + 2 * n) = some (ar, ob 2 [.ref br, .int dy, .int nr])) (hr1 : w (2001 + 2 * n) = some (br, aB g 73 fb)) : Mt l g yX0_append cX0_append 2 (some .int) 7 1 460 w [.ref a3, .ref ar] (fun v w' => v = some (.int (nI n)) ∧ ChAt g w' a3 alr asu alv (n + 1) (va_up er n ar) (va_up ab n br) (apR by9 n fb) (upd rD n dy) ∧ ∀ t, (t < 110 ∨ 114 ≤ t) → (t < 126 ∨ 129 ≤ t) → t ≠ 2001 + 2 * n → w' t = w t) := by
  cases n with
  | zero => exact c_append0 hc hn hr0 hr1
  | succ m => exact c_appendm hc hn hr0 hr1
set_option maxHeartbeats 4000000 in
set_option maxRecDepth 20000 in
theorem c_firstBroken {l : Launch} {g : cx_G} {w : wd_T} {a3 alr asu alv n : Nat} {er ab : Nat → Nat} {by9 rD : Nat → Int32} (hc : ChAt g w a3 alr asu alv n er ab by9 rD) (hn : n ≤ 150) {fr : Nat} (hfr : fr ≤ n) : Mt l g yX0_firstBroken cX0_firstBroken 4 (some .int) 5 0 0 w [.ref a3, .int (nI fr)] (fun v w' => ((v = some (.int (-1)) ∧ ∀ r, fr ≤ r → r < n → okR by9 r) ∨ ∃ r, fr ≤ r ∧ r < n ∧ v = some (.int (nI r)) ∧ ¬ okR by9 r ∧ ∀ q, fr ≤ q → q < r → okR by9 q) ∧ SmAt g w' asu ∧ Fr w w' 110 114) := by
  refine mt_of RX0 "firstBroken" rfl rfl (by decide) (Nat.le_of_ble_eq_true rfl) [(0, .ref a3), (1, .int (nI fr))] rfl ?_
  intro k hkl C hin
  subst hkl
  refine r_iload_n (q := 1) C 1 dX0_firstBroken_0 rfl rfl ?_
  refine r_istore_n (q := 2) (lv' := [(2, .int (nI fr)), (0, .ref a3), (1, .int (nI fr))]) C dX0_firstBroken_1 (by decide) rfl rfl ?_
  refine r_sub (lv' := [(2, .int (nI fr)), (0, .ref a3), (1, .int (nI fr))]) [0, 1, 2] rfl ?_
  have loop : ∀ (r i : Nat)  (w1 : wd_T), i + r = n → (fr ≤ i) → (SmAt g w1 asu) → (Fr w w1 110 114) → (∀ r, fr ≤ r → r < i → okR by9 r) → V g k 4 w1 0 0 (kQ g k (fun v w' => ((v = some (.int (-1)) ∧ ∀ r, fr ≤ r → r < n → okR by9 r) ∨ ∃ r, fr ≤ r ∧ r < n ∧ v = some (.int (nI r)) ∧ ¬ okR by9 r ∧ ∀ q, fr ≤ q → q < r → okR by9 q) ∧ SmAt g w' asu ∧ Fr w w' 110 114) 0 0) 2 [(2, .int (nI i)), (0, .ref a3), (1, .int (nI fr))] [] := by
    intro r
    induction r with
    | zero =>
      intro i  w1 hi hi2 hs1 hf1 hok
      have hc1 := hc.frS hf1 hs1
      obtain ⟨m9, ae, hls⟩ := (hc1.2.1).get
      refine r_iload_n (q := 3) C 0 dX0_firstBroken_2 rfl rfl ?_
      refine r_aload_n (q := 4) C 1 dX0_firstBroken_3 rfl rfl ?_
      refine r_get (q := 7) (t := 103) C koX0 hc1.1 0 (by decide) q102 rfl rfl dX0_firstBroken_4 rfl ?_
      refine r_callV (q := 10) (t := 126) (As := []) (st := [.int (nI i)]) C koJx4a65c hls (c_ALsize hc1.2.1) q175 q284 q173 q174 q5 rfl ⟨by decide, by decide⟩ (show (parseMethodDescriptor yJx4a65c_size_8abf5.desc).map (fun d => d.parameters.length) = some 0 by decide +kernel) (by decide) (by decide) (by decide) (by decide) (Nat.le_of_ble_eq_true rfl) rfl dX0_firstBroken_7 rfl ?_
      rintro v9 w1 ⟨rfl, rfl⟩
      show V g k 4 w1 0 0 (kQ g k (fun v w' => ((v = some (.int (-1)) ∧ ∀ r, fr ≤ r → r < n → okR by9 r) ∨ ∃ r, fr ≤ r ∧ r < n ∧ v = some (.int (nI r)) ∧ ¬ okR by9 r ∧ ∀ q, fr ≤ q → q < r → okR by9 q) ∧ SmAt g w' asu ∧ Fr w w' 110 114) 0 0) 10 [(2, .int (nI i)), (0, .ref a3), (1, .int (nI fr))] [.int (nI n), .int (nI i)]
      refine r_icmp_ge_t (tgt := 59) C dX0_firstBroken_10 (by decide) ((nI_leI (a := n) (b := i) (by omega) (by omega)).mpr (by omega)) ?_
      refine r_iconst (q := 60) C ((-1)) dX0_firstBroken_59 (by decide) rfl ?_
      obtain rfl : i = n := by omega
      exact r_iret C rfl (by decide) (by decide) dX0_firstBroken_60 ⟨Or.inl ⟨rfl, hok⟩, hs1, hf1⟩
    | succ r ih =>
      intro i  w1 hi hi2 hs1 hf1 hok
      have hc1 := hc.frS hf1 hs1
      obtain ⟨m9, ae, hls⟩ := (hc1.2.1).get
      refine r_iload_n (q := 3) C 0 dX0_firstBroken_2 rfl rfl ?_
      refine r_aload_n (q := 4) C 1 dX0_firstBroken_3 rfl rfl ?_
      refine r_get (q := 7) (t := 103) C koX0 hc1.1 0 (by decide) q102 rfl rfl dX0_firstBroken_4 rfl ?_
      refine r_callV (q := 10) (t := 126) (As := []) (st := [.int (nI i)]) C koJx4a65c hls (c_ALsize hc1.2.1) q175 q284 q173 q174 q5 rfl ⟨by decide, by decide⟩ (show (parseMethodDescriptor yJx4a65c_size_8abf5.desc).map (fun d => d.parameters.length) = some 0 by decide +kernel) (by decide) (by decide) (by decide) (by decide) (Nat.le_of_ble_eq_true rfl) rfl dX0_firstBroken_7 rfl ?_
      rintro v9 w3 ⟨rfl, rfl⟩
      show V g k 4 w1 0 0 (kQ g k (fun v w' => ((v = some (.int (-1)) ∧ ∀ r, fr ≤ r → r < n → okR by9 r) ∨ ∃ r, fr ≤ r ∧ r < n ∧ v = some (.int (nI r)) ∧ ¬ okR by9 r ∧ ∀ q, fr ≤ q → q < r → okR by9 q) ∧ SmAt g w' asu ∧ Fr w w' 110 114) 0 0) 10 [(2, .int (nI i)), (0, .ref a3), (1, .int (nI fr))] [.int (nI n), .int (nI i)]
      refine r_icmp_ge_f (q := 13) (tgt := 59) C dX0_firstBroken_10 (by decide) rfl (fun z => absurd ((nI_leI (a := n) (b := i) (by omega) (by omega)).mp z) (by omega)) ?_
      refine r_aload_n (q := 14) C 1 dX0_firstBroken_13 rfl rfl ?_
      refine r_iload_n (q := 15) C 0 dX0_firstBroken_14 rfl rfl ?_
      refine r_callV (q := 18) (t := 103) (As := [.int (nI i)]) (st := []) C koX0 hc1.1 (c_find_y hc1 hn (r := i) (by omega)) q341 q338 q339 q340 q6 rfl ⟨by decide, by decide⟩ (show (parseMethodDescriptor yX0_find.desc).map (fun d => d.parameters.length) = some 1 by decide +kernel) (by decide) (by decide) (by decide) (by decide) (Nat.le_of_ble_eq_true rfl) rfl dX0_firstBroken_15 rfl ?_
      rintro v9 w4 ⟨rfl, rfl⟩
      show V g k 4 w1 0 0 (kQ g k (fun v w' => ((v = some (.int (-1)) ∧ ∀ r, fr ≤ r → r < n → okR by9 r) ∨ ∃ r, fr ≤ r ∧ r < n ∧ v = some (.int (nI r)) ∧ ¬ okR by9 r ∧ ∀ q, fr ≤ q → q < r → okR by9 q) ∧ SmAt g w' asu ∧ Fr w w' 110 114) 0 0) 18 [(2, .int (nI i)), (0, .ref a3), (1, .int (nI fr))] [.ref (er i)]
      obtain ⟨⟨wr, hr0⟩, fb, hr1, hr2⟩ := hc1.2.2.1 i (by omega)
      refine r_astore_n (q := 19) (lv' := [(3, .ref (er i)), (2, .int (nI i)), (0, .ref a3), (1, .int (nI fr))]) C dX0_firstBroken_18 (by decide) rfl rfl ?_
      refine r_aload_n (q := 20) C 0 dX0_firstBroken_19 rfl rfl ?_
      refine r_ifnull (q := 23) C dX0_firstBroken_20 rfl ?_
      refine r_aload_n (q := 24) C 2 dX0_firstBroken_23 rfl rfl ?_
      refine r_aload_n (q := 25) C 2 dX0_firstBroken_24 rfl rfl ?_
      refine r_iload_n (q := 26) C 1 dX0_firstBroken_25 rfl rfl ?_
      refine r_iconst (q := 27) C (nI 1) dX0_firstBroken_26 (by decide) rfl ?_
      rcases Nat.eq_zero_or_pos i with h0 | h0
      · refine r_isub (q := 28) C dX0_firstBroken_27 rfl ?_
        refine r_ti (show ((nI i) - (nI 1) : Int32) = (-1) from by rw [h0]; decide) ?_
        refine r_callV (q := 31) (t := 103) (As := [.int (-1)]) (st := [.ref a3]) C koX0 hc1.1 (c_find_n hc1 hn (x := -1) (Or.inl (by decide))) q341 q338 q339 q340 q6 rfl ⟨by decide, by decide⟩ (show (parseMethodDescriptor yX0_find.desc).map (fun d => d.parameters.length) = some 1 by decide +kernel) (by decide) (by decide) (by decide) (by decide) (Nat.le_of_ble_eq_true rfl) rfl dX0_firstBroken_28 rfl ?_
        rintro v9 w5 ⟨rfl, rfl⟩
        show V g k 4 w1 0 0 (kQ g k (fun v w' => ((v = some (.int (-1)) ∧ ∀ r, fr ≤ r → r < n → okR by9 r) ∨ ∃ r, fr ≤ r ∧ r < n ∧ v = some (.int (nI r)) ∧ ¬ okR by9 r ∧ ∀ q, fr ≤ q → q < r → okR by9 q) ∧ SmAt g w' asu ∧ Fr w w' 110 114) 0 0) 31 [(3, .ref (er i)), (2, .int (nI i)), (0, .ref a3), (1, .int (nI fr))] [.null, .ref a3]
        refine r_aload_n (q := 32) C 0 dX0_firstBroken_31 rfl rfl ?_
        have hr1' := hr1
        rw [show 2001 + 2 * i = 2000 + 2 * i + 1 by omega] at hr1'
        refine r_callV (q := 35) (t := 103) (As := [.null, .ref (er i)]) (st := []) C koX0 hc1.1 (c_sumRow0 hc1.1 hs1 hr0 hr1' (by omega)) q347 q344 q346 qp5 q6 rfl ⟨by decide, by decide⟩ (show (parseMethodDescriptor yX0_sumRow.desc).map (fun d => d.parameters.length) = some 2 by decide +kernel) (by decide) (by decide) (by decide) (by decide) (Nat.le_of_ble_eq_true rfl) rfl dX0_firstBroken_32 rfl ?_
        rintro v9 w5 ⟨rfl, ⟨n8, am8, aw8, as8, msg8, wds8, sta8, s0, s1, s2, s3, s4⟩, ef5⟩
        show V g k 4 w5 0 0 (kQ g k (fun v w' => ((v = some (.int (-1)) ∧ ∀ r, fr ≤ r → r < n → okR by9 r) ∨ ∃ r, fr ≤ r ∧ r < n ∧ v = some (.int (nI r)) ∧ ¬ okR by9 r ∧ ∀ q, fr ≤ q → q < r → okR by9 q) ∧ SmAt g w' asu ∧ Fr w w' 110 114) 0 0) 35 [(3, .ref (er i)), (2, .int (nI i)), (0, .ref a3), (1, .int (nI fr))] []
        have es : sum9 73 (rw9 (fun _ => nI 0) fb) = sum9 73 (rwD by9 (i)) := rw9_congr (fun j hj => (if_pos h0).symm) (fun j hj => hr2 j (by omega))
        rw [es] at s4
        have hs5 : SmAt g w5 asu := ⟨_, _, _, _, _, _, _, _, s0, s1, s2, s3, s4⟩
        refine r_aload_n (q := 36) C 2 dX0_firstBroken_35 rfl rfl ?_
        refine r_get (q := 39) (t := 103) C koX0 ((ef5 103 (by omega)).trans hc1.1) 1 (by decide) q103 rfl rfl dX0_firstBroken_36 rfl ?_
        refine r_aload_n (q := 40) C 0 dX0_firstBroken_39 rfl rfl ?_
        refine r_getN (q := 43) (t := (2000 + 2 * i)) C koX2 ((ef5 (2000 + 2 * i) (by omega)).trans hr0) 0 (by decide) q319 rfl rfl dX0_firstBroken_40 rfl ?_
        refine r_bipush (q := 45) C (nI 41) dX0_firstBroken_43 (by decide) rfl ?_
        refine r_callV (q := 48) (t := 110) (As := [.ref (ab i), .int (nI 41)]) (st := []) C koX3 s0 (c_isAt s0 s3 ((ef5 (2001 + 2 * i) (by omega)).trans hr1) (by decide) (by decide)) q583 q580 q581 q582 q7 rfl ⟨by decide, by decide⟩ (show (parseMethodDescriptor yX3_isAt.desc).map (fun d => d.parameters.length) = some 2 by decide +kernel) (by decide) (by decide) (by decide) (by decide) (Nat.le_of_ble_eq_true rfl) rfl dX0_firstBroken_45 rfl ?_
        rintro v9 w6 ⟨rfl, ⟨rfl, hq⟩ | ⟨rfl, hq⟩⟩
        · show V g k 4 w5 0 0 (kQ g k (fun v w' => ((v = some (.int (-1)) ∧ ∀ r, fr ≤ r → r < n → okR by9 r) ∨ ∃ r, fr ≤ r ∧ r < n ∧ v = some (.int (nI r)) ∧ ¬ okR by9 r ∧ ∀ q, fr ≤ q → q < r → okR by9 q) ∧ SmAt g w' asu ∧ Fr w w' 110 114) 0 0) 48 [(3, .ref (er i)), (2, .int (nI i)), (0, .ref a3), (1, .int (nI fr))] [.int (nI 1)]
          refine r_if_ne_t (tgt := 53) C dX0_firstBroken_48 (by decide) (fun z => absurd ((nI_eq (a := 1) (b := 0) (by omega) (by omega)).mp z) (by omega)) ?_
          refine r_iinc (q := 56) (v := nI (i + 1)) (lv' := [(2, .int (nI (i + 1))), (3, .ref (er i)), (0, .ref a3), (1, .int (nI fr))]) C 1 dX0_firstBroken_53 rfl (nI_1 i) (by decide) rfl rfl ?_
          refine r_goto (tgt := 2) C dX0_firstBroken_56 (by decide) ?_
          refine r_sub (lv' := [(2, .int (nI (i + 1))), (0, .ref a3), (1, .int (nI fr))]) [0, 2, 3] rfl ?_
          have hk : okR by9 (i) := fun k hk => by rw [← hr2 _ (by omega), hq k hk, dig9_congr s4 hk]
          refine ih (i + 1) _ (by omega) (by omega) hs5 (hf1.trans ef5) (fun r a b => ?_)
          rcases Nat.lt_or_ge r (i) with z | z
          · exact hok r a z
          · obtain rfl : r = i := by omega
            exact hk
        · show V g k 4 w5 0 0 (kQ g k (fun v w' => ((v = some (.int (-1)) ∧ ∀ r, fr ≤ r → r < n → okR by9 r) ∨ ∃ r, fr ≤ r ∧ r < n ∧ v = some (.int (nI r)) ∧ ¬ okR by9 r ∧ ∀ q, fr ≤ q → q < r → okR by9 q) ∧ SmAt g w' asu ∧ Fr w w' 110 114) 0 0) 48 [(3, .ref (er i)), (2, .int (nI i)), (0, .ref a3), (1, .int (nI fr))] [.int (nI 0)]
          refine r_if_ne_f (q := 51) (tgt := 53) C dX0_firstBroken_48 (by decide) rfl ((nI_eq (a := 0) (b := 0) (by omega) (by omega)).mpr (by omega)) ?_
          refine r_iload_n (q := 52) C 1 dX0_firstBroken_51 rfl rfl ?_
          refine r_iret C rfl (by decide) (by decide) dX0_firstBroken_52 ⟨Or.inr ⟨_, hi2, by omega, rfl, fun z => ?_, hok⟩, hs5, hf1.trans ef5⟩
          obtain ⟨k, hk, hne⟩ := hq
          apply hne
          have q := z k hk
          rw [hr2 _ (by omega), q, dig9_congr s4 hk]
      · refine r_isub (q := 28) C dX0_firstBroken_27 rfl ?_
        refine r_ti (show ((nI i) - (nI 1) : Int32) = nI (i - 1) from pk_sub h0) ?_
        refine r_callV (q := 31) (t := 103) (As := [.int (nI (i - 1))]) (st := [.ref a3]) C koX0 hc1.1 (c_find_y hc1 hn (r := i - 1) (by omega)) q341 q338 q339 q340 q6 rfl ⟨by decide, by decide⟩ (show (parseMethodDescriptor yX0_find.desc).map (fun d => d.parameters.length) = some 1 by decide +kernel) (by decide) (by decide) (by decide) (by decide) (Nat.le_of_ble_eq_true rfl) rfl dX0_firstBroken_28 rfl ?_
        rintro v9 w8 ⟨rfl, rfl⟩
        show V g k 4 w1 0 0 (kQ g k (fun v w' => ((v = some (.int (-1)) ∧ ∀ r, fr ≤ r → r < n → okR by9 r) ∨ ∃ r, fr ≤ r ∧ r < n ∧ v = some (.int (nI r)) ∧ ¬ okR by9 r ∧ ∀ q, fr ≤ q → q < r → okR by9 q) ∧ SmAt g w' asu ∧ Fr w w' 110 114) 0 0) 31 [(3, .ref (er i)), (2, .int (nI i)), (0, .ref a3), (1, .int (nI fr))] [.ref (er (i - 1)), .ref a3]
        obtain ⟨⟨wp, hp0⟩, fp, hp1, hp2⟩ := hc1.2.2.1 (i - 1) (by omega)
        refine r_aload_n (q := 32) C 0 dX0_firstBroken_31 rfl rfl ?_
        have hr1' := hr1
        rw [show 2001 + 2 * i = 2000 + 2 * i + 1 by omega] at hr1'
        have hp1' := hp1
        rw [show 2001 + 2 * (i - 1) = 2000 + 2 * (i - 1) + 1 by omega] at hp1'
        refine r_callV (q := 35) (t := 103) (As := [.ref (er (i - 1)), .ref (er i)]) (st := []) C koX0 hc1.1 (c_sumRow1 hc1.1 hs1 hr0 hr1' (by omega) hp0 hp1' (by omega)) q347 q344 q346 qp5 q6 rfl ⟨by decide, by decide⟩ (show (parseMethodDescriptor yX0_sumRow.desc).map (fun d => d.parameters.length) = some 2 by decide +kernel) (by decide) (by decide) (by decide) (by decide) (Nat.le_of_ble_eq_true rfl) rfl dX0_firstBroken_32 rfl ?_
        rintro v9 w5 ⟨rfl, ⟨n8, am8, aw8, as8, msg8, wds8, sta8, s0, s1, s2, s3, s4⟩, ef5⟩
        show V g k 4 w5 0 0 (kQ g k (fun v w' => ((v = some (.int (-1)) ∧ ∀ r, fr ≤ r → r < n → okR by9 r) ∨ ∃ r, fr ≤ r ∧ r < n ∧ v = some (.int (nI r)) ∧ ¬ okR by9 r ∧ ∀ q, fr ≤ q → q < r → okR by9 q) ∧ SmAt g w' asu ∧ Fr w w' 110 114) 0 0) 35 [(3, .ref (er i)), (2, .int (nI i)), (0, .ref a3), (1, .int (nI fr))] []
        have es : sum9 73 (rw9 (fun j => fp (41 + j)) fb) = sum9 73 (rwD by9 (i)) := rw9_congr (fun j hj => by
          show fp (41 + j) = if i = 0 then nI 0 else by9 (73 * (i - 1) + 41 + j)
          rw [if_neg (by omega), hp2 _ (by omega)]
          congr 1
          omega) (fun j hj => hr2 j (by omega))
        rw [es] at s4
        have hs5 : SmAt g w5 asu := ⟨_, _, _, _, _, _, _, _, s0, s1, s2, s3, s4⟩
        refine r_aload_n (q := 36) C 2 dX0_firstBroken_35 rfl rfl ?_
        refine r_get (q := 39) (t := 103) C koX0 ((ef5 103 (by omega)).trans hc1.1) 1 (by decide) q103 rfl rfl dX0_firstBroken_36 rfl ?_
        refine r_aload_n (q := 40) C 0 dX0_firstBroken_39 rfl rfl ?_
        refine r_getN (q := 43) (t := (2000 + 2 * i)) C koX2 ((ef5 (2000 + 2 * i) (by omega)).trans hr0) 0 (by decide) q319 rfl rfl dX0_firstBroken_40 rfl ?_
        refine r_bipush (q := 45) C (nI 41) dX0_firstBroken_43 (by decide) rfl ?_
        refine r_callV (q := 48) (t := 110) (As := [.ref (ab i), .int (nI 41)]) (st := []) C koX3 s0 (c_isAt s0 s3 ((ef5 (2001 + 2 * i) (by omega)).trans hr1) (by decide) (by decide)) q583 q580 q581 q582 q7 rfl ⟨by decide, by decide⟩ (show (parseMethodDescriptor yX3_isAt.desc).map (fun d => d.parameters.length) = some 2 by decide +kernel) (by decide) (by decide) (by decide) (by decide) (Nat.le_of_ble_eq_true rfl) rfl dX0_firstBroken_45 rfl ?_
        rintro v9 w6 ⟨rfl, ⟨rfl, hq⟩ | ⟨rfl, hq⟩⟩
        · show V g k 4 w5 0 0 (kQ g k (fun v w' => ((v = some (.int (-1)) ∧ ∀ r, fr ≤ r → r < n → okR by9 r) ∨ ∃ r, fr ≤ r ∧ r < n ∧ v = some (.int (nI r)) ∧ ¬ okR by9 r ∧ ∀ q, fr ≤ q → q < r → okR by9 q) ∧ SmAt g w' asu ∧ Fr w w' 110 114) 0 0) 48 [(3, .ref (er i)), (2, .int (nI i)), (0, .ref a3), (1, .int (nI fr))] [.int (nI 1)]
          refine r_if_ne_t (tgt := 53) C dX0_firstBroken_48 (by decide) (fun z => absurd ((nI_eq (a := 1) (b := 0) (by omega) (by omega)).mp z) (by omega)) ?_
          refine r_iinc (q := 56) (v := nI (i + 1)) (lv' := [(2, .int (nI (i + 1))), (3, .ref (er i)), (0, .ref a3), (1, .int (nI fr))]) C 1 dX0_firstBroken_53 rfl (nI_1 i) (by decide) rfl rfl ?_
          refine r_goto (tgt := 2) C dX0_firstBroken_56 (by decide) ?_
          refine r_sub (lv' := [(2, .int (nI (i + 1))), (0, .ref a3), (1, .int (nI fr))]) [0, 2, 3] rfl ?_
          have hk : okR by9 (i) := fun k hk => by rw [← hr2 _ (by omega), hq k hk, dig9_congr s4 hk]
          refine ih (i + 1) _ (by omega) (by omega) hs5 (hf1.trans ef5) (fun r a b => ?_)
          rcases Nat.lt_or_ge r (i) with z | z
          · exact hok r a z
          · obtain rfl : r = i := by omega
            exact hk
        · show V g k 4 w5 0 0 (kQ g k (fun v w' => ((v = some (.int (-1)) ∧ ∀ r, fr ≤ r → r < n → okR by9 r) ∨ ∃ r, fr ≤ r ∧ r < n ∧ v = some (.int (nI r)) ∧ ¬ okR by9 r ∧ ∀ q, fr ≤ q → q < r → okR by9 q) ∧ SmAt g w' asu ∧ Fr w w' 110 114) 0 0) 48 [(3, .ref (er i)), (2, .int (nI i)), (0, .ref a3), (1, .int (nI fr))] [.int (nI 0)]
          refine r_if_ne_f (q := 51) (tgt := 53) C dX0_firstBroken_48 (by decide) rfl ((nI_eq (a := 0) (b := 0) (by omega) (by omega)).mpr (by omega)) ?_
          refine r_iload_n (q := 52) C 1 dX0_firstBroken_51 rfl rfl ?_
          refine r_iret C rfl (by decide) (by decide) dX0_firstBroken_52 ⟨Or.inr ⟨_, hi2, by omega, rfl, fun z => ?_, hok⟩, hs5, hf1.trans ef5⟩
          obtain ⟨k, hk, hne⟩ := hq
          apply hne
          have q := z k hk
          rw [hr2 _ (by omega), q, dig9_congr s4 hk]
  exact loop (n - fr) fr w (by omega) (Nat.le_refl _) hc.2.2.2.1 Fr.rfl' (fun r a b => absurd a (by omega))
