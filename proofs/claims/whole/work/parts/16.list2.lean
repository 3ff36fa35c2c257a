/-! lists: growing and adding -/
set_option maxHeartbeats 4000000 in
set_option maxRecDepth 20000 in
theorem c_growA {l : Launch} {g : cx_G} {w : wd_T} {tl al : Nat} {m9 : Int32} (h0 : w tl = some (al, ob 9 [.int m9, .ref (gsE g), .int (nI 0)])) : Mt l g yJx4a65c_grow_92f84 cJx4a65c_grow_92f84 4 (some (.array (.object "java/lang/Object"))) 3 1 460 w [.ref al, .int (nI 1)] (fun v w' => ∃ ae, v = some (.ref ae) ∧ w' tl = some (al, ob 9 [.int m9, .ref ae, .int (nI 0)]) ∧ w' (tl + 1) = some (ae, aO g 10 (fun _ => none)) ∧ Fr w w' tl (tl + 3)) := by
  refine mt_of RJx4a65c "grow" rfl rfl (by decide) (Nat.le_of_ble_eq_true rfl) [(0, .ref al), (1, .int (nI 1))] rfl ?_
  intro k hkl C hin
  subst hkl
  refine r_aload_n C 0 dJx4a65c_grow_92f84_0 rfl rfl ?_
  refine r_get (t := tl) C koJx4a65c h0 1 (by decide) q55 rfl rfl dJx4a65c_grow_92f84_1 rfl ?_
  refine r_slen C (ks_Et C) dJx4a65c_grow_92f84_4 rfl ?_
  refine r_istore_n (lv' := [(2, .int (nI 0)), (0, .ref al), (1, .int (nI 1))]) C dJx4a65c_grow_92f84_5 (by decide) rfl rfl ?_
  refine r_iload_n C 0 dJx4a65c_grow_92f84_6 rfl rfl ?_
  refine r_if_gt_f (tgt := 20) C dJx4a65c_grow_92f84_7 (by decide) rfl (fun z => absurd ((nI_ltI (a := 0) (b := 0) (by omega) (by omega)).mp z) (by omega)) ?_
  refine r_aload_n C 1 dJx4a65c_grow_92f84_10 rfl rfl ?_
  refine r_get (t := tl) C koJx4a65c h0 1 (by decide) q55 rfl rfl dJx4a65c_grow_92f84_11 rfl ?_
  refine r_gets C (ks_E C) q53 rfl dJx4a65c_grow_92f84_14 rfl ?_
  refine r_acmp_eq_t (tgt := 45) (x := some (gsE g)) (y := some (gsE g)) C dJx4a65c_grow_92f84_17 (by decide) (rfl) ?_
  refine r_aload_n C 1 dJx4a65c_grow_92f84_45 rfl rfl ?_
  refine r_bipush C (nI 10) dJx4a65c_grow_92f84_46 (by decide) rfl ?_
  refine r_iload_n C 2 dJx4a65c_grow_92f84_48 rfl rfl ?_
  refine r_mmax C q265 q229 q14 q230 (by decide) (Nat.le_of_ble_eq_true rfl) (by decide) (by decide) dJx4a65c_grow_92f84_49 rfl ?_
  refine r_ti (show (if (nI 10) < (nI 1) then nI 1 else nI 10 : Int32) = nI 10 from if_neg (by decide)) ?_
  refine r_newa C 10 rfl (by decide) q266 (tl + 1) (by decide) (by decide) dJx4a65c_grow_92f84_52 rfl (fun ae => ?_)
  refine r_dup_x1 C dJx4a65c_grow_92f84_55 rfl rfl rfl ?_
  refine r_put (t := tl) (w' := wd_set (wd_set w (tl + 1) ae (aO g 10 (fun _ => none))) tl al (ob 9 [.int m9, .ref ae, .int (nI 0)])) C koJx4a65c ((wd_ne (by omega)).trans h0) 1 (by decide) q55 rfl rfl rfl rfl (Nat.le_of_ble_eq_true rfl) dJx4a65c_grow_92f84_56 rfl rfl ?_
  exact r_aret C rfl (Or.inr ⟨_, rfl⟩) (Or.inr ⟨_, rfl⟩) (by decide) (by decide) dJx4a65c_grow_92f84_59 ⟨ae, rfl, wd_eq, (wd_ne (by omega)).trans wd_eq, (Fr.set (by omega) (by omega)).trans (Fr.set (by omega) (by omega))⟩

set_option maxHeartbeats 4000000 in
set_option maxRecDepth 20000 in
theorem c_growB {l : Launch} {g : cx_G} {w : wd_T} {tl al ae n : Nat} {m9 : Int32} {fq : Nat → Option Nat} {el tg : Nat → Nat} (h0 : w tl = some (al, ob 9 [.int m9, .ref ae, .int (nI n)])) (h1 : w (tl + 1) = some (ae, aO g n fq)) (hn : 10 ≤ n) (hn2 : n ≤ 300) (hel : ∀ j, j < n → fq j = some (el j)) (hat : ∀ j, j < n → el_at w (tg j) (el j) ∧ (tg j < tl ∨ tl + 3 ≤ tg j)) : Mt l g yJx4a65c_grow_92f84 cJx4a65c_grow_92f84 4 (some (.array (.object "java/lang/Object"))) 3 1 460 w [.ref al, .int (nI (n + 1))] (fun v w' => ∃ a2, v = some (.ref a2) ∧ w' tl = some (al, ob 9 [.int m9, .ref a2, .int (nI n)]) ∧ w' (tl + 1) = some (a2, aO g (n + n / 2) (va_cpy fq (fun _ => none) 0 0 n)) ∧ Fr w w' tl (tl + 3)) := by
  refine mt_of RJx4a65c "grow" rfl rfl (by decide) (Nat.le_of_ble_eq_true rfl) [(0, .ref al), (1, .int (nI (n + 1)))] rfl ?_
  intro k hkl C hin
  subst hkl
  refine r_aload_n C 0 dJx4a65c_grow_92f84_0 rfl rfl ?_
  refine r_get (t := tl) C koJx4a65c h0 1 (by decide) q55 rfl rfl dJx4a65c_grow_92f84_1 rfl ?_
  refine r_alen (t := (tl + 1)) C h1 dJx4a65c_grow_92f84_4 rfl ?_
  refine r_istore_n (lv' := [(2, .int (nI n)), (0, .ref al), (1, .int (nI (n + 1)))]) C dJx4a65c_grow_92f84_5 (by decide) rfl rfl ?_
  refine r_iload_n C 0 dJx4a65c_grow_92f84_6 rfl rfl ?_
  refine r_if_gt_t (tgt := 20) C dJx4a65c_grow_92f84_7 (by decide) ((nI_ltI (a := 0) (b := n) (by omega) (by omega)).mpr (by omega)) ?_
  refine r_iload_n C 0 dJx4a65c_grow_92f84_20 rfl rfl ?_
  refine r_iload_n C 2 dJx4a65c_grow_92f84_21 rfl rfl ?_
  refine r_iload_n C 0 dJx4a65c_grow_92f84_22 rfl rfl ?_
  refine r_isub C dJx4a65c_grow_92f84_23 rfl ?_
  refine r_ti (show ((nI (n + 1)) - (nI n) : Int32) = nI (n + 1 - n) from pk_sub (by omega)) ?_
  refine r_ti (show (nI (n + 1 - n) : Int32) = nI 1 from by rw [Nat.add_sub_cancel_left]) ?_
  refine r_iload_n C 0 dJx4a65c_grow_92f84_24 rfl rfl ?_
  refine r_iconst C (nI 1) dJx4a65c_grow_92f84_25 (by decide) rfl ?_
  refine r_ishr C dJx4a65c_grow_92f84_26 rfl ?_
  refine r_ti (show ((nI n) >>> ((nI 1) &&& 31) : Int32) = nI (n / 2) from pk_shrN (by omega) _ 1 (by decide)) ?_
  refine r_callS (As := [.int (nI n), .int (nI 1), .int (nI (n / 2))]) (st := []) C (c_newLen (by omega) (by omega)) q227 q225 q226 q13 ⟨by decide, by decide⟩ (show (parseMethodDescriptor yJ8_newLength_cabcc.desc).map (fun d => d.parameters.length) = some 3 by decide +kernel) (by decide) (by decide) (by decide) (by decide) (Nat.le_of_ble_eq_true rfl) rfl dJx4a65c_grow_92f84_27 rfl ?_
  rintro v9 w1 ⟨rfl, rfl⟩
  show V g k 4 w 0 0 (kQ g k (fun v w' => ∃ a2, v = some (.ref a2) ∧ w' tl = some (al, ob 9 [.int m9, .ref a2, .int (nI n)]) ∧ w' (tl + 1) = some (a2, aO g (n + n / 2) (va_cpy fq (fun _ => none) 0 0 n)) ∧ Fr w w' tl (tl + 3)) 1 460) 30 [(2, .int (nI n)), (0, .ref al), (1, .int (nI (n + 1)))] [.int (nI (n + n / 2))]
  refine r_istore_n (lv' := [(3, .int (nI (n + n / 2))), (2, .int (nI n)), (0, .ref al), (1, .int (nI (n + 1)))]) C dJx4a65c_grow_92f84_30 (by decide) rfl rfl ?_
  refine r_aload_n C 2 dJx4a65c_grow_92f84_31 rfl rfl ?_
  refine r_aload_n C 2 dJx4a65c_grow_92f84_32 rfl rfl ?_
  refine r_get (t := tl) C koJx4a65c h0 1 (by decide) q55 rfl rfl dJx4a65c_grow_92f84_33 rfl ?_
  refine r_iload_n C 0 dJx4a65c_grow_92f84_36 rfl rfl ?_
  refine r_callS (As := [.ref ae, .int (nI (n + n / 2))]) (st := [.ref al]) C (c_copyOf2 (tx := tl + 2) h1 (by omega) (by omega) (by omega) (fun i hi y hy => ⟨tg i, by have := (hat i hi).2; omega, by rw [hel i hi] at hy; cases hy; exact (hat i hi).1⟩)) q237 q235 q236 q15 ⟨by decide, by decide⟩ (show (parseMethodDescriptor yJ7_copyOf_1904c.desc).map (fun d => d.parameters.length) = some 2 by decide +kernel) (by decide) (by decide) (by decide) (by decide) (Nat.le_of_ble_eq_true rfl) rfl dJx4a65c_grow_92f84_37 rfl ?_
  rintro v9 w3 ⟨a2, rfl, e2, ef2⟩
  show V g k 4 w3 1 460 (kQ g k (fun v w' => ∃ a2, v = some (.ref a2) ∧ w' tl = some (al, ob 9 [.int m9, .ref a2, .int (nI n)]) ∧ w' (tl + 1) = some (a2, aO g (n + n / 2) (va_cpy fq (fun _ => none) 0 0 n)) ∧ Fr w w' tl (tl + 3)) 1 460) 40 [(3, .int (nI (n + n / 2))), (2, .int (nI n)), (0, .ref al), (1, .int (nI (n + 1)))] [.ref a2, .ref al]
  refine r_mv (tl + 2) (tl + 1) ?_
  refine r_dup_x1 C dJx4a65c_grow_92f84_40 rfl rfl rfl ?_
  refine r_put (t := tl) (w' := wd_set (wd_mv w3 (tl + 2) (tl + 1)) tl al (ob 9 [.int m9, .ref a2, .int (nI n)])) C koJx4a65c ((mv_ne (by omega) (by omega)).trans ((ef2 tl (by omega)).trans h0)) 1 (by decide) q55 rfl rfl rfl rfl (Nat.le_of_ble_eq_true rfl) dJx4a65c_grow_92f84_41 rfl rfl ?_
  exact r_aret C rfl (Or.inr ⟨_, rfl⟩) (Or.inr ⟨_, rfl⟩) (by decide) (by decide) dJx4a65c_grow_92f84_44 ⟨a2, rfl, wd_eq, (wd_ne (by omega)).trans (mv_to.trans e2), fun t ht => (wd_ne (by omega)).trans ((mv_ne (by omega) (by omega)).trans (ef2 t (by omega)))⟩

set_option maxHeartbeats 4000000 in
set_option maxRecDepth 20000 in
theorem c_growA0 {l : Launch} {g : cx_G} {w : wd_T} {tl al : Nat} {m9 : Int32} (h0 : w tl = some (al, ob 9 [.int m9, .ref (gsE g), .int (nI 0)])) : Mt l g yJx4a65c_grow_d5877 cJx4a65c_grow_d5877 1 (some (.array (.object "java/lang/Object"))) 4 1 460 w [.ref al] (fun v w' => ∃ ae, v = some (.ref ae) ∧ w' tl = some (al, ob 9 [.int m9, .ref ae, .int (nI 0)]) ∧ w' (tl + 1) = some (ae, aO g 10 (fun _ => none)) ∧ Fr w w' tl (tl + 3)) := by
  refine mt_of RJx4a65c "grow" rfl rfl (by decide) (Nat.le_of_ble_eq_true rfl) [(0, .ref al)] rfl ?_
  intro k hkl C hin
  subst hkl
  refine r_aload_n C 0 dJx4a65c_grow_d5877_0 rfl rfl ?_
  refine r_aload_n C 0 dJx4a65c_grow_d5877_1 rfl rfl ?_
  refine r_get (t := tl) C koJx4a65c h0 2 (by decide) q56 rfl rfl dJx4a65c_grow_d5877_2 rfl ?_
  refine r_iconst C (nI 1) dJx4a65c_grow_d5877_5 (by decide) rfl ?_
  refine r_iadd C dJx4a65c_grow_d5877_6 rfl ?_
  refine r_ti (show ((nI 0) + (nI 1) : Int32) = nI (0 + 1) from nI_add 0 1) ?_
  refine r_ti (show (nI (0 + 1) : Int32) = nI 1 from rfl) ?_
  refine r_callV (t := tl) (As := [.int (nI 1)]) (st := []) C koJx4a65c h0 (c_growA h0) q224 q221 q223 qp3 q5 rfl ⟨by decide, by decide⟩ (show (parseMethodDescriptor yJx4a65c_grow_92f84.desc).map (fun d => d.parameters.length) = some 1 by decide +kernel) (by decide) (by decide) (by decide) (by decide) (Nat.le_of_ble_eq_true rfl) rfl dJx4a65c_grow_d5877_7 rfl ?_
  rintro v9 w1 ⟨ae, rfl, e0, e1, ef⟩
  show V g k 1 w1 1 460 (kQ g k (fun v w' => ∃ ae, v = some (.ref ae) ∧ w' tl = some (al, ob 9 [.int m9, .ref ae, .int (nI 0)]) ∧ w' (tl + 1) = some (ae, aO g 10 (fun _ => none)) ∧ Fr w w' tl (tl + 3)) 1 460) 10 [(0, .ref al)] [.ref ae]
  exact r_aret C rfl (Or.inr ⟨_, rfl⟩) (Or.inr ⟨_, rfl⟩) (by decide) (by decide) dJx4a65c_grow_d5877_10 ⟨ae, rfl, e0, e1, ef⟩

set_option maxHeartbeats 4000000 in
set_option maxRecDepth 20000 in
theorem c_growB0 {l : Launch} {g : cx_G} {w : wd_T} {tl al ae n : Nat} {m9 : Int32} {fq : Nat → Option Nat} {el tg : Nat → Nat} (h0 : w tl = some (al, ob 9 [.int m9, .ref ae, .int (nI n)])) (h1 : w (tl + 1) = some (ae, aO g n fq)) (hn : 10 ≤ n) (hn2 : n ≤ 300) (hel : ∀ j, j < n → fq j = some (el j)) (hat : ∀ j, j < n → el_at w (tg j) (el j) ∧ (tg j < tl ∨ tl + 3 ≤ tg j)) : Mt l g yJx4a65c_grow_d5877 cJx4a65c_grow_d5877 1 (some (.array (.object "java/lang/Object"))) 4 1 460 w [.ref al] (fun v w' => ∃ a2, v = some (.ref a2) ∧ w' tl = some (al, ob 9 [.int m9, .ref a2, .int (nI n)]) ∧ w' (tl + 1) = some (a2, aO g (n + n / 2) (va_cpy fq (fun _ => none) 0 0 n)) ∧ Fr w w' tl (tl + 3)) := by
  refine mt_of RJx4a65c "grow" rfl rfl (by decide) (Nat.le_of_ble_eq_true rfl) [(0, .ref al)] rfl ?_
  intro k hkl C hin
  subst hkl
  refine r_aload_n C 0 dJx4a65c_grow_d5877_0 rfl rfl ?_
  refine r_aload_n C 0 dJx4a65c_grow_d5877_1 rfl rfl ?_
  refine r_get (t := tl) C koJx4a65c h0 2 (by decide) q56 rfl rfl dJx4a65c_grow_d5877_2 rfl ?_
  refine r_iconst C (nI 1) dJx4a65c_grow_d5877_5 (by decide) rfl ?_
  refine r_iadd C dJx4a65c_grow_d5877_6 rfl ?_
  refine r_ti (show ((nI n) + (nI 1) : Int32) = nI (n + 1) from nI_add n 1) ?_
  refine r_callV (t := tl) (As := [.int (nI (n + 1))]) (st := []) C koJx4a65c h0 (c_growB h0 h1 hn hn2 hel hat) q224 q221 q223 qp3 q5 rfl ⟨by decide, by decide⟩ (show (parseMethodDescriptor yJx4a65c_grow_92f84.desc).map (fun d => d.parameters.length) = some 1 by decide +kernel) (by decide) (by decide) (by decide) (by decide) (Nat.le_of_ble_eq_true rfl) rfl dJx4a65c_grow_d5877_7 rfl ?_
  rintro v9 w1 ⟨a2, rfl, e0, e1, ef⟩
  show V g k 1 w1 1 460 (kQ g k (fun v w' => ∃ a2, v = some (.ref a2) ∧ w' tl = some (al, ob 9 [.int m9, .ref a2, .int (nI n)]) ∧ w' (tl + 1) = some (a2, aO g (n + n / 2) (va_cpy fq (fun _ => none) 0 0 n)) ∧ Fr w w' tl (tl + 3)) 1 460) 10 [(0, .ref al)] [.ref a2]
  exact r_aret C rfl (Or.inr ⟨_, rfl⟩) (Or.inr ⟨_, rfl⟩) (by decide) (by decide) dJx4a65c_grow_d5877_10 ⟨a2, rfl, e0, e1, ef⟩

set_option maxHeartbeats 4000000 in
set_option maxRecDepth 20000 in
theorem c_add3C {l : Launch} {g : cx_G} {w : wd_T} {tl al ae n cap x tx : Nat} {m9 : Int32} {fq : Nat → Option Nat} {el : Nat → Nat} (h0 : w tl = some (al, ob 9 [.int m9, .ref ae, .int (nI n)])) (h1 : w (tl + 1) = some (ae, aO g cap fq)) (hn : n < cap) (hc : 10 ≤ cap) (hc2 : cap ≤ 2 * n + 10) (hn2 : n ≤ 300) (hel : ∀ j, j < n → fq j = some (el j)) (hx : el_at w tx x) (htx : tx < tl ∨ tl + 3 ≤ tx) : Mt l g yJx4a65c_add_72be8 cJx4a65c_add_72be8 4 none 5 1 460 w [.ref al, .ref x, .ref ae, .int (nI n)] (fun v w' => v = none ∧ (∃ (ae cap : Nat) (fq : Nat → Option Nat), w' tl = some (al, ob 9 [.int m9, .ref ae, .int (nI (n + 1))]) ∧ w' (tl + 1) = some (ae, aO g cap fq) ∧ n + 1 ≤ cap ∧ 10 ≤ cap ∧ cap ≤ 2 * (n + 1) + 10 ∧ ∀ j, j < n + 1 → fq j = some (va_up el n x j)) ∧ Fr w w' tl (tl + 3)) := by
  refine mt_of RJx4a65c "add" rfl rfl (by decide) (Nat.le_of_ble_eq_true rfl) [(0, .ref al), (1, .ref x), (2, .ref ae), (3, .int (nI n))] rfl ?_
  intro k hkl C hin
  subst hkl
  refine r_iload_n C 3 dJx4a65c_add_72be8_0 rfl rfl ?_
  refine r_aload_n C 2 dJx4a65c_add_72be8_1 rfl rfl ?_
  refine r_alen (t := (tl + 1)) C h1 dJx4a65c_add_72be8_2 rfl ?_
  refine r_icmp_ne_t (tgt := 11) C dJx4a65c_add_72be8_3 (by decide) (fun z => absurd ((nI_eq (a := n) (b := cap) (by omega) (by omega)).mp z) (by omega)) ?_
  refine r_aload_n C 2 dJx4a65c_add_72be8_11 rfl rfl ?_
  refine r_iload_n C 3 dJx4a65c_add_72be8_12 rfl rfl ?_
  refine r_aload_n C 1 dJx4a65c_add_72be8_13 rfl rfl ?_
  refine r_aast (t := tl + 1) (w' := wd_set w (tl + 1) ae (aO g cap (va_up fq n (some x)))) C h1 hx.ok n rfl (by omega) (by omega) dJx4a65c_add_72be8_14 rfl rfl ?_
  refine r_aload_n C 0 dJx4a65c_add_72be8_15 rfl rfl ?_
  refine r_iload_n C 3 dJx4a65c_add_72be8_16 rfl rfl ?_
  refine r_iconst C (nI 1) dJx4a65c_add_72be8_17 (by decide) rfl ?_
  refine r_iadd C dJx4a65c_add_72be8_18 rfl ?_
  refine r_ti (show ((nI n) + (nI 1) : Int32) = nI (n + 1) from nI_add n 1) ?_
  refine r_put (t := tl) (w' := wd_set (wd_set w (tl + 1) ae (aO g cap (va_up fq n (some x)))) tl al (ob 9 [.int m9, .ref ae, .int (nI (n + 1))])) C koJx4a65c ((wd_ne (by omega)).trans h0) 2 (by decide) q56 rfl rfl rfl rfl (Nat.le_of_ble_eq_true rfl) dJx4a65c_add_72be8_19 rfl rfl ?_
  refine r_vret C rfl (by decide) (by decide) dJx4a65c_add_72be8_22 ⟨rfl, ⟨_, _, _, wd_eq, (wd_ne (by omega)).trans wd_eq, by omega, hc, by omega, ?_⟩, (Fr.set (by omega) (by omega)).trans (Fr.set (by omega) (by omega))⟩
  intro j hj
  by_cases z : j = n
  · rw [z]; unfold va_up; rw [if_pos rfl, if_pos rfl]
  · unfold va_up; rw [if_neg z, if_neg z]; exact hel j (by omega)

set_option maxHeartbeats 4000000 in
set_option maxRecDepth 20000 in
theorem c_add3B {l : Launch} {g : cx_G} {w : wd_T} {tl al ae n : Nat} {m9 : Int32} {fq : Nat → Option Nat} {el tg : Nat → Nat} (h0 : w tl = some (al, ob 9 [.int m9, .ref ae, .int (nI n)])) (h1 : w (tl + 1) = some (ae, aO g n fq)) (hn : 10 ≤ n) (hn2 : n ≤ 300) (hel : ∀ j, j < n → fq j = some (el j)) (hat : ∀ j, j < n → el_at w (tg j) (el j) ∧ (tg j < tl ∨ tl + 3 ≤ tg j)) {x tx : Nat} (hx : el_at w tx x) (htx : tx < tl ∨ tl + 3 ≤ tx) : Mt l g yJx4a65c_add_72be8 cJx4a65c_add_72be8 4 none 5 1 460 w [.ref al, .ref x, .ref ae, .int (nI n)] (fun v w' => v = none ∧ (∃ (ae cap : Nat) (fq : Nat → Option Nat), w' tl = some (al, ob 9 [.int m9, .ref ae, .int (nI (n + 1))]) ∧ w' (tl + 1) = some (ae, aO g cap fq) ∧ n + 1 ≤ cap ∧ 10 ≤ cap ∧ cap ≤ 2 * (n + 1) + 10 ∧ ∀ j, j < n + 1 → fq j = some (va_up el n x j)) ∧ Fr w w' tl (tl + 3)) := by
  refine mt_of RJx4a65c "add" rfl rfl (by decide) (Nat.le_of_ble_eq_true rfl) [(0, .ref al), (1, .ref x), (2, .ref ae), (3, .int (nI n))] rfl ?_
  intro k hkl C hin
  subst hkl
  refine r_iload_n C 3 dJx4a65c_add_72be8_0 rfl rfl ?_
  refine r_aload_n C 2 dJx4a65c_add_72be8_1 rfl rfl ?_
  refine r_alen (t := (tl + 1)) C h1 dJx4a65c_add_72be8_2 rfl ?_
  refine r_icmp_ne_f (tgt := 11) C dJx4a65c_add_72be8_3 (by decide) rfl ((nI_eq (a := n) (b := n) (by omega) (by omega)).mpr (by omega)) ?_
  refine r_aload_n C 0 dJx4a65c_add_72be8_6 rfl rfl ?_
  refine r_callV (t := tl) (As := []) (st := []) C koJx4a65c h0 (c_growB0 h0 h1 hn hn2 hel hat) q220 q217 q219 qp2 q5 rfl ⟨by decide, by decide⟩ (show (parseMethodDescriptor yJx4a65c_grow_d5877.desc).map (fun d => d.parameters.length) = some 0 by decide +kernel) (by decide) (by decide) (by decide) (by decide) (Nat.le_of_ble_eq_true rfl) rfl dJx4a65c_add_72be8_7 rfl ?_
  rintro v9 w5 ⟨a2, rfl, e0, e1, ef⟩
  show V g k 4 w5 1 460 (kQ g k (fun v w' => v = none ∧ (∃ (ae cap : Nat) (fq : Nat → Option Nat), w' tl = some (al, ob 9 [.int m9, .ref ae, .int (nI (n + 1))]) ∧ w' (tl + 1) = some (ae, aO g cap fq) ∧ n + 1 ≤ cap ∧ 10 ≤ cap ∧ cap ≤ 2 * (n + 1) + 10 ∧ ∀ j, j < n + 1 → fq j = some (va_up el n x j)) ∧ Fr w w' tl (tl + 3)) 1 460) 10 [(0, .ref al), (1, .ref x), (2, .ref ae), (3, .int (nI n))] [.ref a2]
  refine r_astore_n (lv' := [(2, .ref a2), (0, .ref al), (1, .ref x), (3, .int (nI n))]) C dJx4a65c_add_72be8_10 (by decide) rfl rfl ?_
  refine r_aload_n C 0 dJx4a65c_add_72be8_11 rfl rfl ?_
  refine r_iload_n C 3 dJx4a65c_add_72be8_12 rfl rfl ?_
  refine r_aload_n C 2 dJx4a65c_add_72be8_13 rfl rfl ?_
  refine r_aast (t := tl + 1) (w' := wd_set w5 (tl + 1) a2 (aO g (n + n / 2) (va_up (va_cpy fq (fun _ => none) 0 0 n) n (some x)))) C e1 (hx.kept (ef tx htx)).ok n rfl (by omega) (by omega) dJx4a65c_add_72be8_14 rfl rfl ?_
  refine r_aload_n C 1 dJx4a65c_add_72be8_15 rfl rfl ?_
  refine r_iload_n C 3 dJx4a65c_add_72be8_16 rfl rfl ?_
  refine r_iconst C (nI 1) dJx4a65c_add_72be8_17 (by decide) rfl ?_
  refine r_iadd C dJx4a65c_add_72be8_18 rfl ?_
  refine r_ti (show ((nI n) + (nI 1) : Int32) = nI (n + 1) from nI_add n 1) ?_
  refine r_put (t := tl) (w' := wd_set (wd_set w5 (tl + 1) a2 (aO g (n + n / 2) (va_up (va_cpy fq (fun _ => none) 0 0 n) n (some x)))) tl al (ob 9 [.int m9, .ref a2, .int (nI (n + 1))])) C koJx4a65c ((wd_ne (by omega)).trans e0) 2 (by decide) q56 rfl rfl rfl rfl (Nat.le_of_ble_eq_true rfl) dJx4a65c_add_72be8_19 rfl rfl ?_
  refine r_vret C rfl (by decide) (by decide) dJx4a65c_add_72be8_22 ⟨rfl, ⟨_, _, _, wd_eq, (wd_ne (by omega)).trans wd_eq, by omega, by omega, by omega, ?_⟩, ef.trans ((Fr.set (by omega) (by omega)).trans (Fr.set (by omega) (by omega)))⟩
  intro j hj
  by_cases z : j = n
  · rw [z]; unfold va_up; rw [if_pos rfl, if_pos rfl]
  · unfold va_up; rw [if_neg z, if_neg z, pk_cpy_in (Nat.zero_le j) (by omega), Nat.zero_add, Nat.sub_zero]; exact hel j (by omega)

set_option maxHeartbeats 4000000 in
set_option maxRecDepth 20000 in
theorem c_add3A {l : Launch} {g : cx_G} {w : wd_T} {tl al x tx : Nat} {m9 : Int32} {el : Nat → Nat} (h0 : w tl = some (al, ob 9 [.int m9, .ref (gsE g), .int (nI 0)])) (hx : el_at w tx x) (htx : tx < tl ∨ tl + 3 ≤ tx) : Mt l g yJx4a65c_add_72be8 cJx4a65c_add_72be8 4 none 5 1 460 w [.ref al, .ref x, .ref (gsE g), .int (nI 0)] (fun v w' => v = none ∧ (∃ (ae cap : Nat) (fq : Nat → Option Nat), w' tl = some (al, ob 9 [.int m9, .ref ae, .int (nI (0 + 1))]) ∧ w' (tl + 1) = some (ae, aO g cap fq) ∧ 0 + 1 ≤ cap ∧ 10 ≤ cap ∧ cap ≤ 2 * (0 + 1) + 10 ∧ ∀ j, j < 0 + 1 → fq j = some (va_up el 0 x j)) ∧ Fr w w' tl (tl + 3)) := by
  refine mt_of RJx4a65c "add" rfl rfl (by decide) (Nat.le_of_ble_eq_true rfl) [(0, .ref al), (1, .ref x), (2, .ref (gsE g)), (3, .int (nI 0))] rfl ?_
  intro k hkl C hin
  subst hkl
  refine r_iload_n C 3 dJx4a65c_add_72be8_0 rfl rfl ?_
  refine r_aload_n C 2 dJx4a65c_add_72be8_1 rfl rfl ?_
  refine r_slen C (ks_Et C) dJx4a65c_add_72be8_2 rfl ?_
  refine r_icmp_ne_f (tgt := 11) C dJx4a65c_add_72be8_3 (by decide) rfl ((nI_eq (a := 0) (b := 0) (by omega) (by omega)).mpr (by omega)) ?_
  refine r_aload_n C 0 dJx4a65c_add_72be8_6 rfl rfl ?_
  refine r_callV (t := tl) (As := []) (st := []) C koJx4a65c h0 (c_growA0 h0) q220 q217 q219 qp2 q5 rfl ⟨by decide, by decide⟩ (show (parseMethodDescriptor yJx4a65c_grow_d5877.desc).map (fun d => d.parameters.length) = some 0 by decide +kernel) (by decide) (by decide) (by decide) (by decide) (Nat.le_of_ble_eq_true rfl) rfl dJx4a65c_add_72be8_7 rfl ?_
  rintro v9 w5 ⟨a2, rfl, e0, e1, ef⟩
  show V g k 4 w5 1 460 (kQ g k (fun v w' => v = none ∧ (∃ (ae cap : Nat) (fq : Nat → Option Nat), w' tl = some (al, ob 9 [.int m9, .ref ae, .int (nI (0 + 1))]) ∧ w' (tl + 1) = some (ae, aO g cap fq) ∧ 0 + 1 ≤ cap ∧ 10 ≤ cap ∧ cap ≤ 2 * (0 + 1) + 10 ∧ ∀ j, j < 0 + 1 → fq j = some (va_up el 0 x j)) ∧ Fr w w' tl (tl + 3)) 1 460) 10 [(0, .ref al), (1, .ref x), (2, .ref (gsE g)), (3, .int (nI 0))] [.ref a2]
  refine r_astore_n (lv' := [(2, .ref a2), (0, .ref al), (1, .ref x), (3, .int (nI 0))]) C dJx4a65c_add_72be8_10 (by decide) rfl rfl ?_
  refine r_aload_n C 0 dJx4a65c_add_72be8_11 rfl rfl ?_
  refine r_iload_n C 3 dJx4a65c_add_72be8_12 rfl rfl ?_
  refine r_aload_n C 2 dJx4a65c_add_72be8_13 rfl rfl ?_
  refine r_aast (t := tl + 1) (w' := wd_set w5 (tl + 1) a2 (aO g 10 (va_up (fun _ => none) 0 (some x)))) C e1 (hx.kept (ef tx htx)).ok 0 rfl (by decide) (by decide) dJx4a65c_add_72be8_14 rfl rfl ?_
  refine r_aload_n C 1 dJx4a65c_add_72be8_15 rfl rfl ?_
  refine r_iload_n C 3 dJx4a65c_add_72be8_16 rfl rfl ?_
  refine r_iconst C (nI 1) dJx4a65c_add_72be8_17 (by decide) rfl ?_
  refine r_iadd C dJx4a65c_add_72be8_18 rfl ?_
  refine r_ti (show ((nI 0) + (nI 1) : Int32) = nI (0 + 1) from nI_add 0 1) ?_
  refine r_put (t := tl) (w' := wd_set (wd_set w5 (tl + 1) a2 (aO g 10 (va_up (fun _ => none) 0 (some x)))) tl al (ob 9 [.int m9, .ref a2, .int (nI (0 + 1))])) C koJx4a65c ((wd_ne (by omega)).trans e0) 2 (by decide) q56 rfl rfl rfl rfl (Nat.le_of_ble_eq_true rfl) dJx4a65c_add_72be8_19 rfl rfl ?_
  refine r_vret C rfl (by decide) (by decide) dJx4a65c_add_72be8_22 ⟨rfl, ⟨_, _, _, wd_eq, (wd_ne (by omega)).trans wd_eq, by omega, by omega, by omega, ?_⟩, ef.trans ((Fr.set (by omega) (by omega)).trans (Fr.set (by omega) (by omega)))⟩
  intro j hj
  obtain rfl : j = 0 := by omega
  unfold va_up; rw [if_pos rfl, if_pos rfl]

theorem vup_eq {α : Type} {f : Nat → α} {k : Nat} {x : α} : va_up f k x k = x := if_pos rfl
theorem vup_ne {α : Type} {f : Nat → α} {k j : Nat} {x : α} (h : j ≠ k) : va_up f k x j = f j := if_neg h
set_option maxHeartbeats 4000000 in
set_option maxRecDepth 20000 in
theorem c_addC {l : Launch} {g : cx_G} {w : wd_T} {tl al ae n cap x tx : Nat} {m9 : Int32} {fq : Nat → Option Nat} {el tg : Nat → Nat} (h0 : w tl = some (al, ob 9 [.int m9, .ref ae, .int (nI n)])) (h1 : w (tl + 1) = some (ae, aO g cap fq)) (hn : n ≤ cap) (hc : 10 ≤ cap) (hc2 : cap ≤ 2 * n + 10) (hn2 : n ≤ 300) (hel : ∀ j, j < n → fq j = some (el j)) (hat : ∀ j, j < n → el_at w (tg j) (el j) ∧ (tg j < tl ∨ tl + 3 ≤ tg j)) (hx : el_at w tx x) (htx : tx < tl ∨ tl + 3 ≤ tx) : Mt l g yJx4a65c_add_9ea2d cJx4a65c_add_9ea2d 2 (some .boolean) 6 1 460 w [.ref al, .ref x] (fun v w' => v = some (.int (nI 1)) ∧ LsAt g w' tl al (n + 1) (va_up el n x) (va_up tg n tx) ∧ Fr w w' tl (tl + 3)) := by
  refine mt_of RJx4a65c "add" rfl rfl (by decide) (Nat.le_of_ble_eq_true rfl) [(0, .ref al), (1, .ref x)] rfl ?_
  intro k hkl C hin
  subst hkl
  refine r_aload_n C 0 dJx4a65c_add_9ea2d_0 rfl rfl ?_
  refine r_dup C dJx4a65c_add_9ea2d_1 rfl rfl ?_
  refine r_getS (t := tl) C koJx4a65c h0 0 (by decide) q58 q59 rfl dJx4a65c_add_9ea2d_2 rfl ?_
  refine r_iconst C (nI 1) dJx4a65c_add_9ea2d_5 (by decide) rfl ?_
  refine r_iadd C dJx4a65c_add_9ea2d_6 rfl ?_
  refine r_putS (t := tl) (w' := wd_set w tl al (ob 9 [.int (m9 + (nI 1)), .ref ae, .int (nI n)])) C koJx4a65c h0 0 (by decide) q58 q59 rfl rfl rfl (Nat.le_of_ble_eq_true rfl) dJx4a65c_add_9ea2d_7 rfl rfl ?_
  refine r_aload_n C 0 dJx4a65c_add_9ea2d_10 rfl rfl ?_
  refine r_aload_n C 1 dJx4a65c_add_9ea2d_11 rfl rfl ?_
  refine r_aload_n C 0 dJx4a65c_add_9ea2d_12 rfl rfl ?_
  refine r_get (t := tl) C koJx4a65c wd_eq 1 (by decide) q55 rfl rfl dJx4a65c_add_9ea2d_13 rfl ?_
  refine r_aload_n C 0 dJx4a65c_add_9ea2d_16 rfl rfl ?_
  refine r_get (t := tl) C koJx4a65c wd_eq 2 (by decide) q56 rfl rfl dJx4a65c_add_9ea2d_17 rfl ?_
  have k1 : Fr w (wd_set w tl al (ob 9 [.int (m9 + (nI 1)), .ref ae, .int (nI n)])) tl (tl + 3) := Fr.set (by omega) (by omega)
  have kx : el_at (wd_set w tl al (ob 9 [.int (m9 + (nI 1)), .ref ae, .int (nI n)])) tx x := hx.kept (k1 tx htx)
  rcases Nat.lt_or_ge n cap with hlt | hge
  · refine r_callV (t := tl) (As := [.ref x, .ref ae, .int (nI n)]) (st := []) C koJx4a65c wd_eq (c_add3C (el := el) wd_eq ((wd_ne (by omega)).trans h1) hlt hc hc2 hn2 hel kx htx) q216 q213 q215 qp1 q5 rfl ⟨by decide, by decide⟩ (show (parseMethodDescriptor yJx4a65c_add_72be8.desc).map (fun d => d.parameters.length) = some 3 by decide +kernel) (by decide) (by decide) (by decide) (by decide) (Nat.le_of_ble_eq_true rfl) rfl dJx4a65c_add_9ea2d_20 rfl ?_
    rintro v9 w5 ⟨rfl, ⟨ae2, cap2, fq2, e0, e1, e2, e3, e4, e5⟩, ef⟩
    show V g k 2 w5 1 460 (kQ g k (fun v w' => v = some (.int (nI 1)) ∧ LsAt g w' tl al (n + 1) (va_up el n x) (va_up tg n tx) ∧ Fr w w' tl (tl + 3)) 1 460) 23 [(0, .ref al), (1, .ref x)] []
    refine r_iconst C (nI 1) dJx4a65c_add_9ea2d_23 (by decide) rfl ?_
    refine r_zret C rfl rfl (by decide) (by decide) dJx4a65c_add_9ea2d_24 ⟨rfl, ⟨_, ae2, e0, Or.inr ⟨cap2, fq2, e1, e2, e3, e4, e5⟩, fun j hj => ?_⟩, k1.trans ef⟩
    by_cases z : j = n
    · rw [z, vup_eq, vup_eq]; exact ⟨kx.kept (ef tx htx), htx⟩
    · rw [vup_ne z, vup_ne z]; have q := hat j (by omega); exact ⟨q.1.kept ((k1.trans ef) _ q.2), q.2⟩
  · obtain rfl : n = cap := by omega
    refine r_callV (t := tl) (As := [.ref x, .ref ae, .int (nI n)]) (st := []) C koJx4a65c wd_eq (c_add3B wd_eq ((wd_ne (by omega)).trans h1) hc hn2 hel (fun j hj => ⟨(hat j hj).1.kept (k1 _ (hat j hj).2), (hat j hj).2⟩) kx htx) q216 q213 q215 qp1 q5 rfl ⟨by decide, by decide⟩ (show (parseMethodDescriptor yJx4a65c_add_72be8.desc).map (fun d => d.parameters.length) = some 3 by decide +kernel) (by decide) (by decide) (by decide) (by decide) (Nat.le_of_ble_eq_true rfl) rfl dJx4a65c_add_9ea2d_20 rfl ?_
    rintro v9 w5 ⟨rfl, ⟨ae2, cap2, fq2, e0, e1, e2, e3, e4, e5⟩, ef⟩
    show V g k 2 w5 1 460 (kQ g k (fun v w' => v = some (.int (nI 1)) ∧ LsAt g w' tl al (n + 1) (va_up el n x) (va_up tg n tx) ∧ Fr w w' tl (tl + 3)) 1 460) 23 [(0, .ref al), (1, .ref x)] []
    refine r_iconst C (nI 1) dJx4a65c_add_9ea2d_23 (by decide) rfl ?_
    refine r_zret C rfl rfl (by decide) (by decide) dJx4a65c_add_9ea2d_24 ⟨rfl, ⟨_, ae2, e0, Or.inr ⟨cap2, fq2, e1, e2, e3, e4, e5⟩, fun j hj => ?_⟩, k1.trans ef⟩
    by_cases z : j = n
    · rw [z, vup_eq, vup_eq]; exact ⟨kx.kept (ef tx htx), htx⟩
    · rw [vup_ne z, vup_ne z]; have q := hat j (by omega); exact ⟨q.1.kept ((k1.trans ef) _ q.2), q.2⟩

set_option maxHeartbeats 4000000 in
set_option maxRecDepth 20000 in
theorem c_addA {l : Launch} {g : cx_G} {w : wd_T} {tl al x tx : Nat} {m9 : Int32} {el tg : Nat → Nat} (h0 : w tl = some (al, ob 9 [.int m9, .ref (gsE g), .int (nI 0)])) (hx : el_at w tx x) (htx : tx < tl ∨ tl + 3 ≤ tx) : Mt l g yJx4a65c_add_9ea2d cJx4a65c_add_9ea2d 2 (some .boolean) 6 1 460 w [.ref al, .ref x] (fun v w' => v = some (.int (nI 1)) ∧ LsAt g w' tl al 1 (va_up el 0 x) (va_up tg 0 tx) ∧ Fr w w' tl (tl + 3)) := by
  refine mt_of RJx4a65c "add" rfl rfl (by decide) (Nat.le_of_ble_eq_true rfl) [(0, .ref al), (1, .ref x)] rfl ?_
  intro k hkl C hin
  subst hkl
  refine r_aload_n C 0 dJx4a65c_add_9ea2d_0 rfl rfl ?_
  refine r_dup C dJx4a65c_add_9ea2d_1 rfl rfl ?_
  refine r_getS (t := tl) C koJx4a65c h0 0 (by decide) q58 q59 rfl dJx4a65c_add_9ea2d_2 rfl ?_
  refine r_iconst C (nI 1) dJx4a65c_add_9ea2d_5 (by decide) rfl ?_
  refine r_iadd C dJx4a65c_add_9ea2d_6 rfl ?_
  refine r_putS (t := tl) (w' := wd_set w tl al (ob 9 [.int (m9 + (nI 1)), .ref (gsE g), .int (nI 0)])) C koJx4a65c h0 0 (by decide) q58 q59 rfl rfl rfl (Nat.le_of_ble_eq_true rfl) dJx4a65c_add_9ea2d_7 rfl rfl ?_
  refine r_aload_n C 0 dJx4a65c_add_9ea2d_10 rfl rfl ?_
  refine r_aload_n C 1 dJx4a65c_add_9ea2d_11 rfl rfl ?_
  refine r_aload_n C 0 dJx4a65c_add_9ea2d_12 rfl rfl ?_
  refine r_get (t := tl) C koJx4a65c wd_eq 1 (by decide) q55 rfl rfl dJx4a65c_add_9ea2d_13 rfl ?_
  refine r_aload_n C 0 dJx4a65c_add_9ea2d_16 rfl rfl ?_
  refine r_get (t := tl) C koJx4a65c wd_eq 2 (by decide) q56 rfl rfl dJx4a65c_add_9ea2d_17 rfl ?_
  have k1 : Fr w (wd_set w tl al (ob 9 [.int (m9 + (nI 1)), .ref (gsE g), .int (nI 0)])) tl (tl + 3) := Fr.set (by omega) (by omega)
  have kx : el_at (wd_set w tl al (ob 9 [.int (m9 + (nI 1)), .ref (gsE g), .int (nI 0)])) tx x := hx.kept (k1 tx htx)
  refine r_callV (t := tl) (As := [.ref x, .ref (gsE g), .int (nI 0)]) (st := []) C koJx4a65c wd_eq (c_add3A (el := el) wd_eq kx htx) q216 q213 q215 qp1 q5 rfl ⟨by decide, by decide⟩ (show (parseMethodDescriptor yJx4a65c_add_72be8.desc).map (fun d => d.parameters.length) = some 3 by decide +kernel) (by decide) (by decide) (by decide) (by decide) (Nat.le_of_ble_eq_true rfl) rfl dJx4a65c_add_9ea2d_20 rfl ?_
  rintro v9 w5 ⟨rfl, ⟨ae2, cap2, fq2, e0, e1, e2, e3, e4, e5⟩, ef⟩
  show V g k 2 w5 1 460 (kQ g k (fun v w' => v = some (.int (nI 1)) ∧ LsAt g w' tl al 1 (va_up el 0 x) (va_up tg 0 tx) ∧ Fr w w' tl (tl + 3)) 1 460) 23 [(0, .ref al), (1, .ref x)] []
  refine r_iconst C (nI 1) dJx4a65c_add_9ea2d_23 (by decide) rfl ?_
  refine r_zret C rfl rfl (by decide) (by decide) dJx4a65c_add_9ea2d_24 ⟨rfl, ⟨_, ae2, e0, Or.inr ⟨cap2, fq2, e1, e2, e3, e4, e5⟩, fun j hj => ?_⟩, k1.trans ef⟩
  by_cases z : j = 0
  · rw [z, vup_eq, vup_eq]; exact ⟨kx.kept (ef tx htx), htx⟩
  · exact absurd z (by omega)

theorem c_ALadd {l : Launch} {g : cx_G} {w : wd_T} {tl al n x tx : Nat} {el tg : Nat → Nat} (h : LsAt g w tl al n el tg) (hn : n ≤ 300) (hx : el_at w tx x) (htx : tx < tl ∨ tl + 3 ≤ tx) : Mt l g yJx4a65c_add_9ea2d cJx4a65c_add_9ea2d 2 (some .boolean) 6 1 460 w [.ref al, .ref x] (fun v w' => v = some (.int (nI 1)) ∧ LsAt g w' tl al (n + 1) (va_up el n x) (va_up tg n tx) ∧ Fr w w' tl (tl + 3)) := by
  obtain ⟨m9, ae, e0, e1, e2⟩ := h
  rcases e1 with ⟨rfl, rfl⟩ | ⟨cap, fq, e1, e3, e4, e5, e6⟩
  · exact c_addA e0 hx htx
  · exact c_addC e0 e1 e3 e4 e5 hn e6 e2 hx htx
theorem LsAt.get {g : cx_G} {w : wd_T} {tl al n : Nat} {el tg : Nat → Nat} (h : LsAt g w tl al n el tg) : ∃ (m9 : Int32) (ae : Nat), w tl = some (al, ob 9 [.int m9, .ref ae, .int (nI n)]) := by
  obtain ⟨m9, ae, e0, -⟩ := h
  exact ⟨m9, ae, e0⟩