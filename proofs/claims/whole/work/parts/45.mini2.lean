/-! the reference: its constructor -/
theorem prB_t {p n : Nat} (h : prB p n = true) (h2 : ¬ p % n = 0) : prB p (n + 1) = true := by
  rw [prB, h]
  cases e : Nat.beq (p % n) 0 with
  | true => exact absurd (Nat.eq_of_beq_eq_true e) h2
  | false => exact Bool.or_true _
theorem prB_0 {p n : Nat} (hn : 2 ≤ n) (h2 : p % n = 0) : prB p (n + 1) = false := by
  rw [prB, h2]
  have e : Nat.ble n 1 = false := by
    cases q : Nat.ble n 1 with
    | false => rfl
    | true => exact absurd (Nat.le_of_ble_eq_true q) (by omega)
  rw [e]
  exact Bool.and_false _
theorem prB_f {p n : Nat} (h : prB p n = false) : prB p (n + 1) = false := by
  rw [prB, h]
  rfl
theorem ck9_t {r p n : Nat} (h : ck9 (r + 1) p n = true) (e : prB p p = true) : nI (bs9 (cuA p) 36 0) = kCu n ∧ (¬ 8 ≤ n → nI (bs9 (sqA p) 36 0) = kSq n) ∧ ck9 r (p + 1) (n + 1) = true := by
  rw [ck9, e] at h
  obtain ⟨h1, h3⟩ := (Bool.and_eq_true _ _).mp h
  obtain ⟨h1, h2⟩ := (Bool.and_eq_true _ _).mp h1
  refine ⟨of_decide_eq_true h1, fun z => ?_, h3⟩
  rcases (Bool.or_eq_true _ _).mp h2 with y | y
  · exact absurd (Nat.le_of_ble_eq_true y) z
  · exact of_decide_eq_true y
theorem ck9_f {r p n : Nat} (h : ck9 (r + 1) p n = true) (e : prB p p = false) : ck9 r (p + 1) n = true := by
  rw [ck9, e] at h
  exact h
set_option maxHeartbeats 4000000 in
set_option maxRecDepth 20000 in
theorem y_init {l : Launch} {g : cx_G} {w : wd_T} {m0 : Nat} (h0 : w 0 = some (m0, ob 8 [.null, .null, .null, .null, .null, .int 0, .null, .null, .int 0, .int 0, .null, .int 0, .null, .null, .int 0, .int 0, .null, .int 0, .null, .null, .null, .null, .null, .null, .int 0])) : Mt l g yX8_init cX8_init 5 none 4 17 28796 w [.ref m0] (fun v w' => v = none ∧ MdAt g w' m0 (nI 0) 0 0 0 0 (fun _ => 0) (fun _ => 0) (fun _ => 0) (fun _ => 0) (fun _ => 0) (fun _ => 0) (fun _ => 0) (fun _ => 0) ∧ Fm w w') := by
  refine mt_of RX8 "<init>" rfl rfl (by decide) (Nat.le_of_ble_eq_true rfl) [(0, .ref m0)] rfl ?_
  intro k hkl C hin
  subst hkl
  refine r_aload_n (q := 1) C 0 dX8_init_0 rfl rfl ?_
  refine r_objI (q := 4) C q690 q33 q34 (by decide) (Nat.le_of_ble_eq_true rfl) dX8_init_1 rfl ?_
  refine r_aload_n (q := 5) C 0 dX8_init_4 rfl rfl ?_
  refine r_bipush (q := 7) C (nI 64) dX8_init_5 (by decide) rfl ?_
  refine r_newi (q := 9) C 64 rfl (by decide) q100 1 (by decide) (by decide) dX8_init_7 rfl (fun bz1 => ?_)
  refine r_putF (q := 12) (t := 0) (w' := wd_set (wd_set w 1 bz1 (aI g 64 (fun _ => 0))) 0 m0 (ob 8 [.ref bz1, .null, .null, .null, .null, .int 0, .null, .null, .int 0, .int 0, .null, .int 0, .null, .null, .int 0, .int 0, .null, .int 0, .null, .null, .null, .null, .null, .null, .int 0])) C koX8 ((wd_ne (by decide)).trans h0) 0 (by decide) q700 rfl rfl hin rfl rfl rfl (Nat.le_of_ble_eq_true rfl) dX8_init_9 rfl rfl ?_
  refine r_aload_n (q := 13) C 0 dX8_init_12 rfl rfl ?_
  refine r_bipush (q := 15) C (nI 8) dX8_init_13 (by decide) rfl ?_
  refine r_newi (q := 17) C 8 rfl (by decide) q100 2 (by decide) (by decide) dX8_init_15 rfl (fun bz2 => ?_)
  refine r_putF (q := 20) (t := 0) (w' := wd_set (wd_set (wd_set w 1 bz1 (aI g 64 (fun _ => 0))) 2 bz2 (aI g 8 (fun _ => 0))) 0 m0 (ob 8 [.ref bz1, .ref bz2, .null, .null, .null, .int 0, .null, .null, .int 0, .int 0, .null, .int 0, .null, .null, .int 0, .int 0, .null, .int 0, .null, .null, .null, .null, .null, .null, .int 0])) C koX8 ((wd_ne (by decide)).trans wd_eq) 1 (by decide) q701 rfl rfl hin rfl rfl rfl (Nat.le_of_ble_eq_true rfl) dX8_init_17 rfl (wd_pp wd_ss (by decide)) ?_
  refine r_aload_n (q := 21) C 0 dX8_init_20 rfl rfl ?_
  refine r_sipush (q := 24) C (nI 1100) dX8_init_21 (by decide) rfl ?_
  refine r_newi (q := 26) C 1100 rfl (by decide) q100 3 (by decide) (by decide) dX8_init_24 rfl (fun bz3 => ?_)
  refine r_putF (q := 29) (t := 0) (w' := wd_set (wd_set (wd_set (wd_set w 1 bz1 (aI g 64 (fun _ => 0))) 2 bz2 (aI g 8 (fun _ => 0))) 3 bz3 (aI g 1100 (fun _ => 0))) 0 m0 (ob 8 [.ref bz1, .ref bz2, .ref bz3, .null, .null, .int 0, .null, .null, .int 0, .int 0, .null, .int 0, .null, .null, .int 0, .int 0, .null, .int 0, .null, .null, .null, .null, .null, .null, .int 0])) C koX8 ((wd_ne (by decide)).trans wd_eq) 2 (by decide) q702 rfl rfl hin rfl rfl rfl (Nat.le_of_ble_eq_true rfl) dX8_init_26 rfl (wd_pp wd_ss (by decide)) ?_
  refine r_aload_n (q := 30) C 0 dX8_init_29 rfl rfl ?_
  refine r_sipush (q := 33) C (nI 1100) dX8_init_30 (by decide) rfl ?_
  refine r_newi (q := 35) C 1100 rfl (by decide) q100 4 (by decide) (by decide) dX8_init_33 rfl (fun bz4 => ?_)
  refine r_putF (q := 38) (t := 0) (w' := wd_set (wd_set (wd_set (wd_set (wd_set w 1 bz1 (aI g 64 (fun _ => 0))) 2 bz2 (aI g 8 (fun _ => 0))) 3 bz3 (aI g 1100 (fun _ => 0))) 4 bz4 (aI g 1100 (fun _ => 0))) 0 m0 (ob 8 [.ref bz1, .ref bz2, .ref bz3, .ref bz4, .null, .int 0, .null, .null, .int 0, .int 0, .null, .int 0, .null, .null, .int 0, .int 0, .null, .int 0, .null, .null, .null, .null, .null, .null, .int 0])) C koX8 ((wd_ne (by decide)).trans wd_eq) 3 (by decide) q703 rfl rfl hin rfl rfl rfl (Nat.le_of_ble_eq_true rfl) dX8_init_35 rfl (wd_pp wd_ss (by decide)) ?_
  refine r_aload_n (q := 39) C 0 dX8_init_38 rfl rfl ?_
  refine r_sipush (q := 42) C (nI 1100) dX8_init_39 (by decide) rfl ?_
  refine r_newi (q := 44) C 1100 rfl (by decide) q100 5 (by decide) (by decide) dX8_init_42 rfl (fun bz5 => ?_)
  refine r_putF (q := 47) (t := 0) (w' := wd_set (wd_set (wd_set (wd_set (wd_set (wd_set w 1 bz1 (aI g 64 (fun _ => 0))) 2 bz2 (aI g 8 (fun _ => 0))) 3 bz3 (aI g 1100 (fun _ => 0))) 4 bz4 (aI g 1100 (fun _ => 0))) 5 bz5 (aI g 1100 (fun _ => 0))) 0 m0 (ob 8 [.ref bz1, .ref bz2, .ref bz3, .ref bz4, .ref bz5, .int 0, .null, .null, .int 0, .int 0, .null, .int 0, .null, .null, .int 0, .int 0, .null, .int 0, .null, .null, .null, .null, .null, .null, .int 0])) C koX8 ((wd_ne (by decide)).trans wd_eq) 4 (by decide) q704 rfl rfl hin rfl rfl rfl (Nat.le_of_ble_eq_true rfl) dX8_init_44 rfl (wd_pp wd_ss (by decide)) ?_
  refine r_aload_n (q := 48) C 0 dX8_init_47 rfl rfl ?_
  refine r_sipush (q := 51) C (nI 1800) dX8_init_48 (by decide) rfl ?_
  refine r_newl (q := 53) C 1800 rfl (by decide) q302 6 (by decide) (by decide) dX8_init_51 rfl (fun bz6 => ?_)
  refine r_putF (q := 56) (t := 0) (w' := wd_set (wd_set (wd_set (wd_set (wd_set (wd_set (wd_set w 1 bz1 (aI g 64 (fun _ => 0))) 2 bz2 (aI g 8 (fun _ => 0))) 3 bz3 (aI g 1100 (fun _ => 0))) 4 bz4 (aI g 1100 (fun _ => 0))) 5 bz5 (aI g 1100 (fun _ => 0))) 6 bz6 (aL g 1800 (fun _ => 0))) 0 m0 (ob 8 [.ref bz1, .ref bz2, .ref bz3, .ref bz4, .ref bz5, .int 0, .ref bz6, .null, .int 0, .int 0, .null, .int 0, .null, .null, .int 0, .int 0, .null, .int 0, .null, .null, .null, .null, .null, .null, .int 0])) C koX8 ((wd_ne (by decide)).trans wd_eq) 6 (by decide) q706 rfl rfl hin rfl rfl rfl (Nat.le_of_ble_eq_true rfl) dX8_init_53 rfl (wd_pp wd_ss (by decide)) ?_
  refine r_aload_n (q := 57) C 0 dX8_init_56 rfl rfl ?_
  refine r_sipush (q := 60) C (nI 1600) dX8_init_57 (by decide) rfl ?_
  refine r_newi (q := 62) C 1600 rfl (by decide) q100 7 (by decide) (by decide) dX8_init_60 rfl (fun bz7 => ?_)
  refine r_putF (q := 65) (t := 0) (w' := wd_set (wd_set (wd_set (wd_set (wd_set (wd_set (wd_set (wd_set w 1 bz1 (aI g 64 (fun _ => 0))) 2 bz2 (aI g 8 (fun _ => 0))) 3 bz3 (aI g 1100 (fun _ => 0))) 4 bz4 (aI g 1100 (fun _ => 0))) 5 bz5 (aI g 1100 (fun _ => 0))) 6 bz6 (aL g 1800 (fun _ => 0))) 7 bz7 (aI g 1600 (fun _ => 0))) 0 m0 (ob 8 [.ref bz1, .ref bz2, .ref bz3, .ref bz4, .ref bz5, .int 0, .ref bz6, .ref bz7, .int 0, .int 0, .null, .int 0, .null, .null, .int 0, .int 0, .null, .int 0, .null, .null, .null, .null, .null, .null, .int 0])) C koX8 ((wd_ne (by decide)).trans wd_eq) 7 (by decide) q707 rfl rfl hin rfl rfl rfl (Nat.le_of_ble_eq_true rfl) dX8_init_62 rfl (wd_pp wd_ss (by decide)) ?_
  refine r_aload_n (q := 66) C 0 dX8_init_65 rfl rfl ?_
  refine r_sipush (q := 69) C (nI 400) dX8_init_66 (by decide) rfl ?_
  refine r_newi (q := 71) C 400 rfl (by decide) q100 8 (by decide) (by decide) dX8_init_69 rfl (fun bz8 => ?_)
  refine r_putF (q := 74) (t := 0) (w' := wd_set (wd_set (wd_set (wd_set (wd_set (wd_set (wd_set (wd_set (wd_set w 1 bz1 (aI g 64 (fun _ => 0))) 2 bz2 (aI g 8 (fun _ => 0))) 3 bz3 (aI g 1100 (fun _ => 0))) 4 bz4 (aI g 1100 (fun _ => 0))) 5 bz5 (aI g 1100 (fun _ => 0))) 6 bz6 (aL g 1800 (fun _ => 0))) 7 bz7 (aI g 1600 (fun _ => 0))) 8 bz8 (aI g 400 (fun _ => 0))) 0 m0 (ob 8 [.ref bz1, .ref bz2, .ref bz3, .ref bz4, .ref bz5, .int 0, .ref bz6, .ref bz7, .int 0, .int 0, .ref bz8, .int 0, .null, .null, .int 0, .int 0, .null, .int 0, .null, .null, .null, .null, .null, .null, .int 0])) C koX8 ((wd_ne (by decide)).trans wd_eq) 10 (by decide) q710 rfl rfl hin rfl rfl rfl (Nat.le_of_ble_eq_true rfl) dX8_init_71 rfl (wd_pp wd_ss (by decide)) ?_
  refine r_aload_n (q := 75) C 0 dX8_init_74 rfl rfl ?_
  refine r_sipush (q := 78) C (nI 14600) dX8_init_75 (by decide) rfl ?_
  refine r_newb (q := 80) C 14600 rfl (by decide) q101 9 (by decide) (by decide) dX8_init_78 rfl (fun bz9 => ?_)
  refine r_putF (q := 83) (t := 0) (w' := wd_set (wd_set (wd_set (wd_set (wd_set (wd_set (wd_set (wd_set (wd_set (wd_set w 1 bz1 (aI g 64 (fun _ => 0))) 2 bz2 (aI g 8 (fun _ => 0))) 3 bz3 (aI g 1100 (fun _ => 0))) 4 bz4 (aI g 1100 (fun _ => 0))) 5 bz5 (aI g 1100 (fun _ => 0))) 6 bz6 (aL g 1800 (fun _ => 0))) 7 bz7 (aI g 1600 (fun _ => 0))) 8 bz8 (aI g 400 (fun _ => 0))) 9 bz9 (aB g 14600 (fun _ => 0))) 0 m0 (ob 8 [.ref bz1, .ref bz2, .ref bz3, .ref bz4, .ref bz5, .int 0, .ref bz6, .ref bz7, .int 0, .int 0, .ref bz8, .int 0, .ref bz9, .null, .int 0, .int 0, .null, .int 0, .null, .null, .null, .null, .null, .null, .int 0])) C koX8 ((wd_ne (by decide)).trans wd_eq) 12 (by decide) q712 rfl rfl hin rfl rfl rfl (Nat.le_of_ble_eq_true rfl) dX8_init_80 rfl (wd_pp wd_ss (by decide)) ?_
  refine r_aload_n (q := 84) C 0 dX8_init_83 rfl rfl ?_
  refine r_sipush (q := 87) C (nI 200) dX8_init_84 (by decide) rfl ?_
  refine r_newi (q := 89) C 200 rfl (by decide) q100 10 (by decide) (by decide) dX8_init_87 rfl (fun bz10 => ?_)
  refine r_putF (q := 92) (t := 0) (w' := wd_set (wd_set (wd_set (wd_set (wd_set (wd_set (wd_set (wd_set (wd_set (wd_set (wd_set w 1 bz1 (aI g 64 (fun _ => 0))) 2 bz2 (aI g 8 (fun _ => 0))) 3 bz3 (aI g 1100 (fun _ => 0))) 4 bz4 (aI g 1100 (fun _ => 0))) 5 bz5 (aI g 1100 (fun _ => 0))) 6 bz6 (aL g 1800 (fun _ => 0))) 7 bz7 (aI g 1600 (fun _ => 0))) 8 bz8 (aI g 400 (fun _ => 0))) 9 bz9 (aB g 14600 (fun _ => 0))) 10 bz10 (aI g 200 (fun _ => 0))) 0 m0 (ob 8 [.ref bz1, .ref bz2, .ref bz3, .ref bz4, .ref bz5, .int 0, .ref bz6, .ref bz7, .int 0, .int 0, .ref bz8, .int 0, .ref bz9, .ref bz10, .int 0, .int 0, .null, .int 0, .null, .null, .null, .null, .null, .null, .int 0])) C koX8 ((wd_ne (by decide)).trans wd_eq) 13 (by decide) q713 rfl rfl hin rfl rfl rfl (Nat.le_of_ble_eq_true rfl) dX8_init_89 rfl (wd_pp wd_ss (by decide)) ?_
  refine r_aload_n (q := 93) C 0 dX8_init_92 rfl rfl ?_
  refine r_sipush (q := 96) C (nI 192) dX8_init_93 (by decide) rfl ?_
  refine r_newb (q := 98) C 192 rfl (by decide) q101 11 (by decide) (by decide) dX8_init_96 rfl (fun bz11 => ?_)
  refine r_putF (q := 101) (t := 0) (w' := wd_set (wd_set (wd_set (wd_set (wd_set (wd_set (wd_set (wd_set (wd_set (wd_set (wd_set (wd_set w 1 bz1 (aI g 64 (fun _ => 0))) 2 bz2 (aI g 8 (fun _ => 0))) 3 bz3 (aI g 1100 (fun _ => 0))) 4 bz4 (aI g 1100 (fun _ => 0))) 5 bz5 (aI g 1100 (fun _ => 0))) 6 bz6 (aL g 1800 (fun _ => 0))) 7 bz7 (aI g 1600 (fun _ => 0))) 8 bz8 (aI g 400 (fun _ => 0))) 9 bz9 (aB g 14600 (fun _ => 0))) 10 bz10 (aI g 200 (fun _ => 0))) 11 bz11 (aB g 192 (fun _ => 0))) 0 m0 (ob 8 [.ref bz1, .ref bz2, .ref bz3, .ref bz4, .ref bz5, .int 0, .ref bz6, .ref bz7, .int 0, .int 0, .ref bz8, .int 0, .ref bz9, .ref bz10, .int 0, .int 0, .ref bz11, .int 0, .null, .null, .null, .null, .null, .null, .int 0])) C koX8 ((wd_ne (by decide)).trans wd_eq) 16 (by decide) q716 rfl rfl hin rfl rfl rfl (Nat.le_of_ble_eq_true rfl) dX8_init_98 rfl (wd_pp wd_ss (by decide)) ?_
  refine r_aload_n (q := 102) C 0 dX8_init_101 rfl rfl ?_
  refine r_bipush (q := 104) C (nI 32) dX8_init_102 (by decide) rfl ?_
  refine r_newb (q := 106) C 32 rfl (by decide) q101 12 (by decide) (by decide) dX8_init_104 rfl (fun bz12 => ?_)
  refine r_putF (q := 109) (t := 0) (w' := wd_set (wd_set (wd_set (wd_set (wd_set (wd_set (wd_set (wd_set (wd_set (wd_set (wd_set (wd_set (wd_set w 1 bz1 (aI g 64 (fun _ => 0))) 2 bz2 (aI g 8 (fun _ => 0))) 3 bz3 (aI g 1100 (fun _ => 0))) 4 bz4 (aI g 1100 (fun _ => 0))) 5 bz5 (aI g 1100 (fun _ => 0))) 6 bz6 (aL g 1800 (fun _ => 0))) 7 bz7 (aI g 1600 (fun _ => 0))) 8 bz8 (aI g 400 (fun _ => 0))) 9 bz9 (aB g 14600 (fun _ => 0))) 10 bz10 (aI g 200 (fun _ => 0))) 11 bz11 (aB g 192 (fun _ => 0))) 12 bz12 (aB g 32 (fun _ => 0))) 0 m0 (ob 8 [.ref bz1, .ref bz2, .ref bz3, .ref bz4, .ref bz5, .int 0, .ref bz6, .ref bz7, .int 0, .int 0, .ref bz8, .int 0, .ref bz9, .ref bz10, .int 0, .int 0, .ref bz11, .int 0, .ref bz12, .null, .null, .null, .null, .null, .int 0])) C koX8 ((wd_ne (by decide)).trans wd_eq) 18 (by decide) q718 rfl rfl hin rfl rfl rfl (Nat.le_of_ble_eq_true rfl) dX8_init_106 rfl (wd_pp wd_ss (by decide)) ?_
  refine r_aload_n (q := 110) C 0 dX8_init_109 rfl rfl ?_
  refine r_bipush (q := 112) C (nI 8) dX8_init_110 (by decide) rfl ?_
  refine r_newi (q := 114) C 8 rfl (by decide) q100 13 (by decide) (by decide) dX8_init_112 rfl (fun bz13 => ?_)
  refine r_putF (q := 117) (t := 0) (w' := wd_set (wd_set (wd_set (wd_set (wd_set (wd_set (wd_set (wd_set (wd_set (wd_set (wd_set (wd_set (wd_set (wd_set w 1 bz1 (aI g 64 (fun _ => 0))) 2 bz2 (aI g 8 (fun _ => 0))) 3 bz3 (aI g 1100 (fun _ => 0))) 4 bz4 (aI g 1100 (fun _ => 0))) 5 bz5 (aI g 1100 (fun _ => 0))) 6 bz6 (aL g 1800 (fun _ => 0))) 7 bz7 (aI g 1600 (fun _ => 0))) 8 bz8 (aI g 400 (fun _ => 0))) 9 bz9 (aB g 14600 (fun _ => 0))) 10 bz10 (aI g 200 (fun _ => 0))) 11 bz11 (aB g 192 (fun _ => 0))) 12 bz12 (aB g 32 (fun _ => 0))) 13 bz13 (aI g 8 (fun _ => 0))) 0 m0 (ob 8 [.ref bz1, .ref bz2, .ref bz3, .ref bz4, .ref bz5, .int 0, .ref bz6, .ref bz7, .int 0, .int 0, .ref bz8, .int 0, .ref bz9, .ref bz10, .int 0, .int 0, .ref bz11, .int 0, .ref bz12, .ref bz13, .null, .null, .null, .null, .int 0])) C koX8 ((wd_ne (by decide)).trans wd_eq) 19 (by decide) q719 rfl rfl hin rfl rfl rfl (Nat.le_of_ble_eq_true rfl) dX8_init_114 rfl (wd_pp wd_ss (by decide)) ?_
  refine r_aload_n (q := 118) C 0 dX8_init_117 rfl rfl ?_
  refine r_bipush (q := 120) C (nI 8) dX8_init_118 (by decide) rfl ?_
  refine r_newi (q := 122) C 8 rfl (by decide) q100 14 (by decide) (by decide) dX8_init_120 rfl (fun bz14 => ?_)
  refine r_putF (q := 125) (t := 0) (w' := wd_set (wd_set (wd_set (wd_set (wd_set (wd_set (wd_set (wd_set (wd_set (wd_set (wd_set (wd_set (wd_set (wd_set (wd_set w 1 bz1 (aI g 64 (fun _ => 0))) 2 bz2 (aI g 8 (fun _ => 0))) 3 bz3 (aI g 1100 (fun _ => 0))) 4 bz4 (aI g 1100 (fun _ => 0))) 5 bz5 (aI g 1100 (fun _ => 0))) 6 bz6 (aL g 1800 (fun _ => 0))) 7 bz7 (aI g 1600 (fun _ => 0))) 8 bz8 (aI g 400 (fun _ => 0))) 9 bz9 (aB g 14600 (fun _ => 0))) 10 bz10 (aI g 200 (fun _ => 0))) 11 bz11 (aB g 192 (fun _ => 0))) 12 bz12 (aB g 32 (fun _ => 0))) 13 bz13 (aI g 8 (fun _ => 0))) 14 bz14 (aI g 8 (fun _ => 0))) 0 m0 (ob 8 [.ref bz1, .ref bz2, .ref bz3, .ref bz4, .ref bz5, .int 0, .ref bz6, .ref bz7, .int 0, .int 0, .ref bz8, .int 0, .ref bz9, .ref bz10, .int 0, .int 0, .ref bz11, .int 0, .ref bz12, .ref bz13, .ref bz14, .null, .null, .null, .int 0])) C koX8 ((wd_ne (by decide)).trans wd_eq) 20 (by decide) q720 rfl rfl hin rfl rfl rfl (Nat.le_of_ble_eq_true rfl) dX8_init_122 rfl (wd_pp wd_ss (by decide)) ?_
  refine r_aload_n (q := 126) C 0 dX8_init_125 rfl rfl ?_
  refine r_bipush (q := 128) C (nI 64) dX8_init_126 (by decide) rfl ?_
  refine r_newi (q := 130) C 64 rfl (by decide) q100 15 (by decide) (by decide) dX8_init_128 rfl (fun bz15 => ?_)
  refine r_putF (q := 133) (t := 0) (w' := wd_set (wd_set (wd_set (wd_set (wd_set (wd_set (wd_set (wd_set (wd_set (wd_set (wd_set (wd_set (wd_set (wd_set (wd_set (wd_set w 1 bz1 (aI g 64 (fun _ => 0))) 2 bz2 (aI g 8 (fun _ => 0))) 3 bz3 (aI g 1100 (fun _ => 0))) 4 bz4 (aI g 1100 (fun _ => 0))) 5 bz5 (aI g 1100 (fun _ => 0))) 6 bz6 (aL g 1800 (fun _ => 0))) 7 bz7 (aI g 1600 (fun _ => 0))) 8 bz8 (aI g 400 (fun _ => 0))) 9 bz9 (aB g 14600 (fun _ => 0))) 10 bz10 (aI g 200 (fun _ => 0))) 11 bz11 (aB g 192 (fun _ => 0))) 12 bz12 (aB g 32 (fun _ => 0))) 13 bz13 (aI g 8 (fun _ => 0))) 14 bz14 (aI g 8 (fun _ => 0))) 15 bz15 (aI g 64 (fun _ => 0))) 0 m0 (ob 8 [.ref bz1, .ref bz2, .ref bz3, .ref bz4, .ref bz5, .int 0, .ref bz6, .ref bz7, .int 0, .int 0, .ref bz8, .int 0, .ref bz9, .ref bz10, .int 0, .int 0, .ref bz11, .int 0, .ref bz12, .ref bz13, .ref bz14, .ref bz15, .null, .null, .int 0])) C koX8 ((wd_ne (by decide)).trans wd_eq) 21 (by decide) q721 rfl rfl hin rfl rfl rfl (Nat.le_of_ble_eq_true rfl) dX8_init_130 rfl (wd_pp wd_ss (by decide)) ?_
  refine r_aload_n (q := 134) C 0 dX8_init_133 rfl rfl ?_
  refine r_sipush (q := 137) C (nI 6400) dX8_init_134 (by decide) rfl ?_
  refine r_newb (q := 139) C 6400 rfl (by decide) q101 16 (by decide) (by decide) dX8_init_137 rfl (fun bz16 => ?_)
  refine r_putF (q := 142) (t := 0) (w' := wd_set (wd_set (wd_set (wd_set (wd_set (wd_set (wd_set (wd_set (wd_set (wd_set (wd_set (wd_set (wd_set (wd_set (wd_set (wd_set (wd_set w 1 bz1 (aI g 64 (fun _ => 0))) 2 bz2 (aI g 8 (fun _ => 0))) 3 bz3 (aI g 1100 (fun _ => 0))) 4 bz4 (aI g 1100 (fun _ => 0))) 5 bz5 (aI g 1100 (fun _ => 0))) 6 bz6 (aL g 1800 (fun _ => 0))) 7 bz7 (aI g 1600 (fun _ => 0))) 8 bz8 (aI g 400 (fun _ => 0))) 9 bz9 (aB g 14600 (fun _ => 0))) 10 bz10 (aI g 200 (fun _ => 0))) 11 bz11 (aB g 192 (fun _ => 0))) 12 bz12 (aB g 32 (fun _ => 0))) 13 bz13 (aI g 8 (fun _ => 0))) 14 bz14 (aI g 8 (fun _ => 0))) 15 bz15 (aI g 64 (fun _ => 0))) 16 bz16 (aB g 6400 (fun _ => 0))) 0 m0 (ob 8 [.ref bz1, .ref bz2, .ref bz3, .ref bz4, .ref bz5, .int 0, .ref bz6, .ref bz7, .int 0, .int 0, .ref bz8, .int 0, .ref bz9, .ref bz10, .int 0, .int 0, .ref bz11, .int 0, .ref bz12, .ref bz13, .ref bz14, .ref bz15, .ref bz16, .null, .int 0])) C koX8 ((wd_ne (by decide)).trans wd_eq) 22 (by decide) q722 rfl rfl hin rfl rfl rfl (Nat.le_of_ble_eq_true rfl) dX8_init_139 rfl (wd_pp wd_ss (by decide)) ?_
  refine r_aload_n (q := 143) C 0 dX8_init_142 rfl rfl ?_
  refine r_bipush (q := 145) C (nI 120) dX8_init_143 (by decide) rfl ?_
  refine r_newb (q := 147) C 120 rfl (by decide) q101 17 (by decide) (by decide) dX8_init_145 rfl (fun bz17 => ?_)
  refine r_putF (q := 150) (t := 0) (w' := wd_set (wd_set (wd_set (wd_set (wd_set (wd_set (wd_set (wd_set (wd_set (wd_set (wd_set (wd_set (wd_set (wd_set (wd_set (wd_set (wd_set (wd_set w 1 bz1 (aI g 64 (fun _ => 0))) 2 bz2 (aI g 8 (fun _ => 0))) 3 bz3 (aI g 1100 (fun _ => 0))) 4 bz4 (aI g 1100 (fun _ => 0))) 5 bz5 (aI g 1100 (fun _ => 0))) 6 bz6 (aL g 1800 (fun _ => 0))) 7 bz7 (aI g 1600 (fun _ => 0))) 8 bz8 (aI g 400 (fun _ => 0))) 9 bz9 (aB g 14600 (fun _ => 0))) 10 bz10 (aI g 200 (fun _ => 0))) 11 bz11 (aB g 192 (fun _ => 0))) 12 bz12 (aB g 32 (fun _ => 0))) 13 bz13 (aI g 8 (fun _ => 0))) 14 bz14 (aI g 8 (fun _ => 0))) 15 bz15 (aI g 64 (fun _ => 0))) 16 bz16 (aB g 6400 (fun _ => 0))) 17 bz17 (aB g 120 (fun _ => 0))) 0 m0 (ob 8 [.ref bz1, .ref bz2, .ref bz3, .ref bz4, .ref bz5, .int 0, .ref bz6, .ref bz7, .int 0, .int 0, .ref bz8, .int 0, .ref bz9, .ref bz10, .int 0, .int 0, .ref bz11, .int 0, .ref bz12, .ref bz13, .ref bz14, .ref bz15, .ref bz16, .ref bz17, .int 0])) C koX8 ((wd_ne (by decide)).trans wd_eq) 23 (by decide) q723 rfl rfl hin rfl rfl rfl (Nat.le_of_ble_eq_true rfl) dX8_init_147 rfl (wd_pp wd_ss (by decide)) ?_
  refine r_iconst (q := 151) C (nI 0) dX8_init_150 (by decide) rfl ?_
  refine r_istore_n (q := 152) (lv' := [(1, .int (nI 0)), (0, .ref m0)]) C dX8_init_151 (by decide) rfl rfl ?_
  refine r_iconst (q := 153) C (nI 2) dX8_init_152 (by decide) rfl ?_
  refine r_istore_n (q := 154) (lv' := [(2, .int (nI 2)), (1, .int (nI 0)), (0, .ref m0)]) C dX8_init_153 (by decide) rfl rfl ?_
  refine r_sub (lv' := [(2, .int (nI 2)), (1, .int (nI 0)), (0, .ref m0)]) [0, 1, 2] rfl ?_
  have hfm : ∀ t, 18 ≤ t → (wd_set (wd_set (wd_set (wd_set (wd_set (wd_set (wd_set (wd_set (wd_set (wd_set (wd_set (wd_set (wd_set (wd_set (wd_set (wd_set (wd_set (wd_set w 1 bz1 (aI g 64 (fun _ => 0))) 2 bz2 (aI g 8 (fun _ => 0))) 3 bz3 (aI g 1100 (fun _ => 0))) 4 bz4 (aI g 1100 (fun _ => 0))) 5 bz5 (aI g 1100 (fun _ => 0))) 6 bz6 (aL g 1800 (fun _ => 0))) 7 bz7 (aI g 1600 (fun _ => 0))) 8 bz8 (aI g 400 (fun _ => 0))) 9 bz9 (aB g 14600 (fun _ => 0))) 10 bz10 (aI g 200 (fun _ => 0))) 11 bz11 (aB g 192 (fun _ => 0))) 12 bz12 (aB g 32 (fun _ => 0))) 13 bz13 (aI g 8 (fun _ => 0))) 14 bz14 (aI g 8 (fun _ => 0))) 15 bz15 (aI g 64 (fun _ => 0))) 16 bz16 (aB g 6400 (fun _ => 0))) 17 bz17 (aB g 120 (fun _ => 0))) 0 m0 (ob 8 [.ref bz1, .ref bz2, .ref bz3, .ref bz4, .ref bz5, .int 0, .ref bz6, .ref bz7, .int 0, .int 0, .ref bz8, .int 0, .ref bz9, .ref bz10, .int 0, .int 0, .ref bz11, .int 0, .ref bz12, .ref bz13, .ref bz14, .ref bz15, .ref bz16, .ref bz17, .int 0])) t = w t := fun t ht => by simp only [wd_set]; rw [if_neg (by omega), if_neg (by omega), if_neg (by omega), if_neg (by omega), if_neg (by omega), if_neg (by omega), if_neg (by omega), if_neg (by omega), if_neg (by omega), if_neg (by omega), if_neg (by omega), if_neg (by omega), if_neg (by omega), if_neg (by omega), if_neg (by omega), if_neg (by omega), if_neg (by omega), if_neg (by omega)]
  generalize hy1 : (wd_set (wd_set (wd_set (wd_set (wd_set (wd_set (wd_set (wd_set (wd_set (wd_set (wd_set (wd_set (wd_set (wd_set (wd_set (wd_set (wd_set (wd_set w 1 bz1 (aI g 64 (fun _ => 0))) 2 bz2 (aI g 8 (fun _ => 0))) 3 bz3 (aI g 1100 (fun _ => 0))) 4 bz4 (aI g 1100 (fun _ => 0))) 5 bz5 (aI g 1100 (fun _ => 0))) 6 bz6 (aL g 1800 (fun _ => 0))) 7 bz7 (aI g 1600 (fun _ => 0))) 8 bz8 (aI g 400 (fun _ => 0))) 9 bz9 (aB g 14600 (fun _ => 0))) 10 bz10 (aI g 200 (fun _ => 0))) 11 bz11 (aB g 192 (fun _ => 0))) 12 bz12 (aB g 32 (fun _ => 0))) 13 bz13 (aI g 8 (fun _ => 0))) 14 bz14 (aI g 8 (fun _ => 0))) 15 bz15 (aI g 64 (fun _ => 0))) 16 bz16 (aB g 6400 (fun _ => 0))) 17 bz17 (aB g 120 (fun _ => 0))) 0 m0 (ob 8 [.ref bz1, .ref bz2, .ref bz3, .ref bz4, .ref bz5, .int 0, .ref bz6, .ref bz7, .int 0, .int 0, .ref bz8, .int 0, .ref bz9, .ref bz10, .int 0, .int 0, .ref bz11, .int 0, .ref bz12, .ref bz13, .ref bz14, .ref bz15, .ref bz16, .ref bz17, .int 0])) = y1w
  have y10 : y1w 0 = some (m0, ob 8 [.ref bz1, .ref bz2, .ref bz3, .ref bz4, .ref bz5, .int 0, .ref bz6, .ref bz7, .int 0, .int 0, .ref bz8, .int 0, .ref bz9, .ref bz10, .int 0, .int 0, .ref bz11, .int 0, .ref bz12, .ref bz13, .ref bz14, .ref bz15, .ref bz16, .ref bz17, .int 0]) := by rw [← hy1]; exact wd_eq
  have y117 : y1w 17 = some (bz17, aB g 120 (fun _ => 0)) := by rw [← hy1]; exact ((wd_ne (by decide)).trans wd_eq)
  have y116 : y1w 16 = some (bz16, aB g 6400 (fun _ => 0)) := by rw [← hy1]; exact ((wd_ne (by decide)).trans ((wd_ne (by decide)).trans wd_eq))
  have y115 : y1w 15 = some (bz15, aI g 64 (fun _ => 0)) := by rw [← hy1]; exact ((wd_ne (by decide)).trans ((wd_ne (by decide)).trans ((wd_ne (by decide)).trans wd_eq)))
  have y114 : y1w 14 = some (bz14, aI g 8 (fun _ => 0)) := by rw [← hy1]; exact ((wd_ne (by decide)).trans ((wd_ne (by decide)).trans ((wd_ne (by decide)).trans ((wd_ne (by decide)).trans wd_eq))))
  have y113 : y1w 13 = some (bz13, aI g 8 (fun _ => 0)) := by rw [← hy1]; exact ((wd_ne (by decide)).trans ((wd_ne (by decide)).trans ((wd_ne (by decide)).trans ((wd_ne (by decide)).trans ((wd_ne (by decide)).trans wd_eq)))))
  have y112 : y1w 12 = some (bz12, aB g 32 (fun _ => 0)) := by rw [← hy1]; exact ((wd_ne (by decide)).trans ((wd_ne (by decide)).trans ((wd_ne (by decide)).trans ((wd_ne (by decide)).trans ((wd_ne (by decide)).trans ((wd_ne (by decide)).trans wd_eq))))))
  have y111 : y1w 11 = some (bz11, aB g 192 (fun _ => 0)) := by rw [← hy1]; exact ((wd_ne (by decide)).trans ((wd_ne (by decide)).trans ((wd_ne (by decide)).trans ((wd_ne (by decide)).trans ((wd_ne (by decide)).trans ((wd_ne (by decide)).trans ((wd_ne (by decide)).trans wd_eq)))))))
  have y110 : y1w 10 = some (bz10, aI g 200 (fun _ => 0)) := by rw [← hy1]; exact ((wd_ne (by decide)).trans ((wd_ne (by decide)).trans ((wd_ne (by decide)).trans ((wd_ne (by decide)).trans ((wd_ne (by decide)).trans ((wd_ne (by decide)).trans ((wd_ne (by decide)).trans ((wd_ne (by decide)).trans wd_eq))))))))
  have y19 : y1w 9 = some (bz9, aB g 14600 (fun _ => 0)) := by rw [← hy1]; exact ((wd_ne (by decide)).trans ((wd_ne (by decide)).trans ((wd_ne (by decide)).trans ((wd_ne (by decide)).trans ((wd_ne (by decide)).trans ((wd_ne (by decide)).trans ((wd_ne (by decide)).trans ((wd_ne (by decide)).trans ((wd_ne (by decide)).trans wd_eq)))))))))
  have y18 : y1w 8 = some (bz8, aI g 400 (fun _ => 0)) := by rw [← hy1]; exact ((wd_ne (by decide)).trans ((wd_ne (by decide)).trans ((wd_ne (by decide)).trans ((wd_ne (by decide)).trans ((wd_ne (by decide)).trans ((wd_ne (by decide)).trans ((wd_ne (by decide)).trans ((wd_ne (by decide)).trans ((wd_ne (by decide)).trans ((wd_ne (by decide)).trans wd_eq))))))))))
  have y17 : y1w 7 = some (bz7, aI g 1600 (fun _ => 0)) := by rw [← hy1]; exact ((wd_ne (by decide)).trans ((wd_ne (by decide)).trans ((wd_ne (by decide)).trans ((wd_ne (by decide)).trans ((wd_ne (by decide)).trans ((wd_ne (by decide)).trans ((wd_ne (by decide)).trans ((wd_ne (by decide)).trans ((wd_ne (by decide)).trans ((wd_ne (by decide)).trans ((wd_ne (by decide)).trans wd_eq)))))))))))
  have y16 : y1w 6 = some (bz6, aL g 1800 (fun _ => 0)) := by rw [← hy1]; exact ((wd_ne (by decide)).trans ((wd_ne (by decide)).trans ((wd_ne (by decide)).trans ((wd_ne (by decide)).trans ((wd_ne (by decide)).trans ((wd_ne (by decide)).trans ((wd_ne (by decide)).trans ((wd_ne (by decide)).trans ((wd_ne (by decide)).trans ((wd_ne (by decide)).trans ((wd_ne (by decide)).trans ((wd_ne (by decide)).trans wd_eq))))))))))))
  have y15 : y1w 5 = some (bz5, aI g 1100 (fun _ => 0)) := by rw [← hy1]; exact ((wd_ne (by decide)).trans ((wd_ne (by decide)).trans ((wd_ne (by decide)).trans ((wd_ne (by decide)).trans ((wd_ne (by decide)).trans ((wd_ne (by decide)).trans ((wd_ne (by decide)).trans ((wd_ne (by decide)).trans ((wd_ne (by decide)).trans ((wd_ne (by decide)).trans ((wd_ne (by decide)).trans ((wd_ne (by decide)).trans ((wd_ne (by decide)).trans wd_eq)))))))))))))
  have y14 : y1w 4 = some (bz4, aI g 1100 (fun _ => 0)) := by rw [← hy1]; exact ((wd_ne (by decide)).trans ((wd_ne (by decide)).trans ((wd_ne (by decide)).trans ((wd_ne (by decide)).trans ((wd_ne (by decide)).trans ((wd_ne (by decide)).trans ((wd_ne (by decide)).trans ((wd_ne (by decide)).trans ((wd_ne (by decide)).trans ((wd_ne (by decide)).trans ((wd_ne (by decide)).trans ((wd_ne (by decide)).trans ((wd_ne (by decide)).trans ((wd_ne (by decide)).trans wd_eq))))))))))))))
  have y13 : y1w 3 = some (bz3, aI g 1100 (fun _ => 0)) := by rw [← hy1]; exact ((wd_ne (by decide)).trans ((wd_ne (by decide)).trans ((wd_ne (by decide)).trans ((wd_ne (by decide)).trans ((wd_ne (by decide)).trans ((wd_ne (by decide)).trans ((wd_ne (by decide)).trans ((wd_ne (by decide)).trans ((wd_ne (by decide)).trans ((wd_ne (by decide)).trans ((wd_ne (by decide)).trans ((wd_ne (by decide)).trans ((wd_ne (by decide)).trans ((wd_ne (by decide)).trans ((wd_ne (by decide)).trans wd_eq)))))))))))))))
  have y12 : y1w 2 = some (bz2, aI g 8 (fun _ => 0)) := by rw [← hy1]; exact ((wd_ne (by decide)).trans ((wd_ne (by decide)).trans ((wd_ne (by decide)).trans ((wd_ne (by decide)).trans ((wd_ne (by decide)).trans ((wd_ne (by decide)).trans ((wd_ne (by decide)).trans ((wd_ne (by decide)).trans ((wd_ne (by decide)).trans ((wd_ne (by decide)).trans ((wd_ne (by decide)).trans ((wd_ne (by decide)).trans ((wd_ne (by decide)).trans ((wd_ne (by decide)).trans ((wd_ne (by decide)).trans ((wd_ne (by decide)).trans wd_eq))))))))))))))))
  have y11 : y1w 1 = some (bz1, aI g 64 (fun _ => 0)) := by rw [← hy1]; exact ((wd_ne (by decide)).trans ((wd_ne (by decide)).trans ((wd_ne (by decide)).trans ((wd_ne (by decide)).trans ((wd_ne (by decide)).trans ((wd_ne (by decide)).trans ((wd_ne (by decide)).trans ((wd_ne (by decide)).trans ((wd_ne (by decide)).trans ((wd_ne (by decide)).trans ((wd_ne (by decide)).trans ((wd_ne (by decide)).trans ((wd_ne (by decide)).trans ((wd_ne (by decide)).trans ((wd_ne (by decide)).trans ((wd_ne (by decide)).trans ((wd_ne (by decide)).trans wd_eq)))))))))))))))))
  rw [hy1] at hfm
  have loop : ∀ (u7 p9 : Nat) (n9 : Nat) (cu sq : Nat → Int32) (w1 : wd_T), (p9 + u7 = 312 ∧ 2 ≤ p9 ∧ n9 ≤ 400) → (w1 1 = some (bz1, aI g 64 cu)) → (w1 2 = some (bz2, aI g 8 sq)) → (ck9 u7 p9 n9 = true) → (∀ j, j < n9 → cu j = kCu j) → (∀ j, j < 8 → j < n9 → sq j = kSq j) → (∀ t, t ≠ 1 → t ≠ 2 → w1 t = y1w t) → V g k 5 w1 17 28796 (kQ g k (fun v w' => v = none ∧ MdAt g w' m0 (nI 0) 0 0 0 0 (fun _ => 0) (fun _ => 0) (fun _ => 0) (fun _ => 0) (fun _ => 0) (fun _ => 0) (fun _ => 0) (fun _ => 0) ∧ Fm w w') 17 28796) 154 [(2, .int (nI p9)), (1, .int (nI n9)), (0, .ref m0)] [] := by
    intro u7
    induction u7 with
    | zero =>
      intro p9 n9 cu sq w1 hi g1 g2 hck hcu hsq gf
      obtain rfl : 312 = p9 := by omega
      have h64 := Nat.eq_of_beq_eq_true hck
      subst h64
      refine r_iload_n (q := 155) C 1 dX8_init_154 rfl rfl ?_
      refine r_bipush (q := 157) C (nI 64) dX8_init_155 (by decide) rfl ?_
      refine r_icmp_ge_t (tgt := 235) C dX8_init_157 (by decide) ((nI_leI (a := 64) (b := 64) (by omega) (by omega)).mpr (by omega)) ?_
      exact r_vret C rfl (by decide) (by decide) dX8_init_235 ⟨rfl, ⟨(fun t => [0, bz1, bz2, bz3, bz4, bz5, bz6, bz7, bz8, bz9, bz10, bz11, bz12, bz13, bz14, bz15, bz16, bz17].getD t 0), 0, 0, fun _ => 0, fun _ => 0, ((gf 0 (by decide) (by decide)).trans y10), ⟨⟨cu, g1, fun j hj => hcu j (by omega)⟩, sq, g2, fun j hj => hsq j hj (by omega)⟩, ((gf 3 (by decide) (by decide)).trans y13), ((gf 4 (by decide) (by decide)).trans y14), ((gf 5 (by decide) (by decide)).trans y15), ((gf 6 (by decide) (by decide)).trans y16), ((gf 7 (by decide) (by decide)).trans y17), ((gf 8 (by decide) (by decide)).trans y18), ((gf 9 (by decide) (by decide)).trans y19), ((gf 10 (by decide) (by decide)).trans y110), ⟨⟨_, ((gf 11 (by decide) (by decide)).trans y111)⟩, ⟨_, ((gf 12 (by decide) (by decide)).trans y112)⟩, ⟨_, ((gf 13 (by decide) (by decide)).trans y113)⟩, ⟨_, ((gf 14 (by decide) (by decide)).trans y114)⟩, _, ((gf 15 (by decide) (by decide)).trans y115)⟩, ((gf 16 (by decide) (by decide)).trans y116), ((gf 17 (by decide) (by decide)).trans y117)⟩, fun t ht => (gf t (by omega) (by omega)).trans (hfm t ht)⟩
    | succ u7 ih =>
      intro p9 n9 cu sq w1 hi g1 g2 hck hcu hsq gf
      refine r_iload_n (q := 155) C 1 dX8_init_154 rfl rfl ?_
      refine r_bipush (q := 157) C (nI 64) dX8_init_155 (by decide) rfl ?_
      refine r_icmp_ge (q := 160) (tgt := 235) C dX8_init_157 (by decide) rfl (fun hc3 => ?_) (fun hc3 => ?_)
      · have hc3 : 64 ≤ n9 := (nI_leI (a := 64) (b := n9) (by omega) (by omega)).mp hc3
        exact r_vret C rfl (by decide) (by decide) dX8_init_235 ⟨rfl, ⟨(fun t => [0, bz1, bz2, bz3, bz4, bz5, bz6, bz7, bz8, bz9, bz10, bz11, bz12, bz13, bz14, bz15, bz16, bz17].getD t 0), 0, 0, fun _ => 0, fun _ => 0, ((gf 0 (by decide) (by decide)).trans y10), ⟨⟨cu, g1, fun j hj => hcu j (by omega)⟩, sq, g2, fun j hj => hsq j hj (by omega)⟩, ((gf 3 (by decide) (by decide)).trans y13), ((gf 4 (by decide) (by decide)).trans y14), ((gf 5 (by decide) (by decide)).trans y15), ((gf 6 (by decide) (by decide)).trans y16), ((gf 7 (by decide) (by decide)).trans y17), ((gf 8 (by decide) (by decide)).trans y18), ((gf 9 (by decide) (by decide)).trans y19), ((gf 10 (by decide) (by decide)).trans y110), ⟨⟨_, ((gf 11 (by decide) (by decide)).trans y111)⟩, ⟨_, ((gf 12 (by decide) (by decide)).trans y112)⟩, ⟨_, ((gf 13 (by decide) (by decide)).trans y113)⟩, ⟨_, ((gf 14 (by decide) (by decide)).trans y114)⟩, _, ((gf 15 (by decide) (by decide)).trans y115)⟩, ((gf 16 (by decide) (by decide)).trans y116), ((gf 17 (by decide) (by decide)).trans y117)⟩, fun t ht => (gf t (by omega) (by omega)).trans (hfm t ht)⟩
      · have hc3 : ¬ 64 ≤ n9 := fun z => hc3 ((nI_leI (a := 64) (b := n9) (by omega) (by omega)).mpr z)
        refine r_iconst (q := 161) C (nI 1) dX8_init_160 (by decide) rfl ?_
        refine r_istore_n (q := 162) (lv' := [(3, .int (nI 1)), (2, .int (nI p9)), (1, .int (nI n9)), (0, .ref m0)]) C dX8_init_161 (by decide) rfl rfl ?_
        refine r_iconst (q := 163) C (nI 2) dX8_init_162 (by decide) rfl ?_
        refine r_istore (q := 165) (lv' := [(4, .int (nI 2)), (3, .int (nI 1)), (2, .int (nI p9)), (1, .int (nI n9)), (0, .ref m0)]) C dX8_init_163 (by decide) rfl rfl ?_
        refine r_sub (lv' := [(4, .int (nI 2)), (3, .int (nI 1)), (2, .int (nI p9)), (1, .int (nI n9)), (0, .ref m0)]) [0, 1, 2, 3, 4] rfl ?_
        have loop2 : ∀ (u8 k8 : Nat) (fl9 : Nat) , k8 + u8 = p9 → (fl9 = b9 (prB p9 k8)) → (2 ≤ k8) → V g k 5 w1 17 28796 (kQ g k (fun v w' => v = none ∧ MdAt g w' m0 (nI 0) 0 0 0 0 (fun _ => 0) (fun _ => 0) (fun _ => 0) (fun _ => 0) (fun _ => 0) (fun _ => 0) (fun _ => 0) (fun _ => 0) ∧ Fm w w') 17 28796) 165 [(4, .int (nI k8)), (3, .int (nI fl9)), (2, .int (nI p9)), (1, .int (nI n9)), (0, .ref m0)] [] := by
          intro u8
          induction u8 with
          | zero =>
            intro k8 fl9  hi hfl hk2
            obtain rfl : p9 = k8 := by omega
            refine r_iload (q := 167) C 0 dX8_init_165 rfl rfl ?_
            refine r_iload_n (q := 168) C 2 dX8_init_167 rfl rfl ?_
            refine r_icmp_ge_t (tgt := 194) C dX8_init_168 (by decide) ((nI_leI (a := p9) (b := p9) (by omega) (by omega)).mpr (by omega)) ?_
            refine r_iload_n (q := 195) C 1 dX8_init_194 rfl rfl ?_
            cases e9 : prB p9 p9 with
            | true =>
              rw [e9] at hfl
              subst hfl
              show V g k 5 w1 17 28796 (kQ g k (fun v w' => v = none ∧ MdAt g w' m0 (nI 0) 0 0 0 0 (fun _ => 0) (fun _ => 0) (fun _ => 0) (fun _ => 0) (fun _ => 0) (fun _ => 0) (fun _ => 0) (fun _ => 0) ∧ Fm w w') 17 28796) 195 [(4, .int (nI p9)), (3, .int (nI 1)), (2, .int (nI p9)), (1, .int (nI n9)), (0, .ref m0)] [.int (nI 1)]
              refine r_if_eq_f (q := 198) (tgt := 229) C dX8_init_195 (by decide) rfl (by decide) ?_
              obtain ⟨k1, k2, k3⟩ := ck9_t hck e9
              refine r_aload_n (q := 199) C 4 dX8_init_198 rfl rfl ?_
              refine r_get (q := 202) (t := 0) C koX8 ((gf 0 (by decide) (by decide)).trans y10) 0 (by decide) q700 rfl rfl dX8_init_199 rfl ?_
              refine r_iload_n (q := 203) C 3 dX8_init_202 rfl rfl ?_
              refine r_iload_n (q := 204) C 2 dX8_init_203 rfl rfl ?_
              refine r_iconst (q := 205) C (nI 1) dX8_init_204 (by decide) rfl ?_
              refine r_callS (q := 208) (As := [.int (nI p9), .int (nI 1)]) (st := [.int (nI n9), .ref bz1]) C (m_root_c (by omega)) q693 q691 q692 q9 ⟨by decide, by decide⟩ (show (parseMethodDescriptor yX8_rootOf.desc).map (fun d => d.parameters.length) = some 2 by decide +kernel) (by decide) (by decide) (by decide) (by decide) (Nat.le_of_ble_eq_true rfl) rfl dX8_init_205 rfl ?_
              rintro v9 w6 ⟨rfl, rfl⟩
              show V g k 5 w1 17 28796 (kQ g k (fun v w' => v = none ∧ MdAt g w' m0 (nI 0) 0 0 0 0 (fun _ => 0) (fun _ => 0) (fun _ => 0) (fun _ => 0) (fun _ => 0) (fun _ => 0) (fun _ => 0) (fun _ => 0) ∧ Fm w w') 17 28796) 208 [(4, .int (nI p9)), (3, .int (nI 1)), (2, .int (nI p9)), (1, .int (nI n9)), (0, .ref m0)] [.int (nI (bs9 (cuA p9) 36 0)), .int (nI n9), .ref bz1]
              refine r_iast (q := 209) (t := 1) (w' := wd_set w1 1 bz1 (aI g 64 (upd cu n9 (nI (bs9 (cuA p9) 36 0))))) C g1 n9 rfl (by omega) (by decide) dX8_init_208 rfl rfl ?_
              refine r_iload_n (q := 210) C 3 dX8_init_209 rfl rfl ?_
              refine r_bipush (q := 212) C (nI 8) dX8_init_210 (by decide) rfl ?_
              refine r_icmp_ge (q := 215) (tgt := 226) C dX8_init_212 (by decide) rfl (fun hc7 => ?_) (fun hc7 => ?_)
              · have hc7 : 8 ≤ n9 := (nI_leI (a := 8) (b := n9) (by omega) (by omega)).mp hc7
                refine r_iinc (q := 229) (v := nI (n9 + 1)) (lv' := [(1, .int (nI (n9 + 1))), (4, .int (nI p9)), (3, .int (nI 1)), (2, .int (nI p9)), (0, .ref m0)]) C 3 dX8_init_226 rfl (nI_1 n9) (by decide) rfl rfl ?_
                refine r_iinc (q := 232) (v := nI (p9 + 1)) (lv' := [(2, .int (nI (p9 + 1))), (1, .int (nI (n9 + 1))), (4, .int (nI p9)), (3, .int (nI 1)), (0, .ref m0)]) C 3 dX8_init_229 rfl (nI_1 p9) (by decide) rfl rfl ?_
                refine r_goto (tgt := 154) C dX8_init_232 (by decide) ?_
                refine r_sub (lv' := [(2, .int (nI (p9 + 1))), (1, .int (nI (n9 + 1))), (0, .ref m0)]) [0, 1, 4] rfl ?_
                exact ih (p9 + 1) (n9 + 1) _ _ _ (by omega) wd_eq ((wd_ne (by decide)).trans g2) k3 (fun j hj => by by_cases z : j = n9; rw [z, pk_us]; exact k1; rw [pk_un z]; exact hcu j (by omega)) (fun j hj _ => hsq j hj (by omega)) (fun t a b => (wd_ne a).trans (gf t a b))
              · have hc7 : ¬ 8 ≤ n9 := fun z => hc7 ((nI_leI (a := 8) (b := n9) (by omega) (by omega)).mpr z)
                refine r_aload_n (q := 216) C 4 dX8_init_215 rfl rfl ?_
                refine r_get (q := 219) (t := 0) C koX8 ((wd_ne (by decide)).trans ((gf 0 (by decide) (by decide)).trans y10)) 1 (by decide) q701 rfl rfl dX8_init_216 rfl ?_
                refine r_iload_n (q := 220) C 3 dX8_init_219 rfl rfl ?_
                refine r_iload_n (q := 221) C 2 dX8_init_220 rfl rfl ?_
                refine r_iconst (q := 222) C (nI 0) dX8_init_221 (by decide) rfl ?_
                refine r_callS (q := 225) (As := [.int (nI p9), .int (nI 0)]) (st := [.int (nI n9), .ref bz2]) C (m_root_s (by omega)) q693 q691 q692 q9 ⟨by decide, by decide⟩ (show (parseMethodDescriptor yX8_rootOf.desc).map (fun d => d.parameters.length) = some 2 by decide +kernel) (by decide) (by decide) (by decide) (by decide) (Nat.le_of_ble_eq_true rfl) rfl dX8_init_222 rfl ?_
                rintro v9 w10 ⟨rfl, rfl⟩
                show V g k 5 (wd_set w1 1 bz1 (aI g 64 (upd cu n9 (nI (bs9 (cuA p9) 36 0))))) 17 28796 (kQ g k (fun v w' => v = none ∧ MdAt g w' m0 (nI 0) 0 0 0 0 (fun _ => 0) (fun _ => 0) (fun _ => 0) (fun _ => 0) (fun _ => 0) (fun _ => 0) (fun _ => 0) (fun _ => 0) ∧ Fm w w') 17 28796) 225 [(4, .int (nI p9)), (3, .int (nI 1)), (2, .int (nI p9)), (1, .int (nI n9)), (0, .ref m0)] [.int (nI (bs9 (sqA p9) 36 0)), .int (nI n9), .ref bz2]
                refine r_iast (q := 226) (t := 2) (w' := wd_set (wd_set w1 1 bz1 (aI g 64 (upd cu n9 (nI (bs9 (cuA p9) 36 0))))) 2 bz2 (aI g 8 (upd sq n9 (nI (bs9 (sqA p9) 36 0))))) C ((wd_ne (by decide)).trans g2) n9 rfl (by omega) (by decide) dX8_init_225 rfl rfl ?_
                refine r_iinc (q := 229) (v := nI (n9 + 1)) (lv' := [(1, .int (nI (n9 + 1))), (4, .int (nI p9)), (3, .int (nI 1)), (2, .int (nI p9)), (0, .ref m0)]) C 3 dX8_init_226 rfl (nI_1 n9) (by decide) rfl rfl ?_
                refine r_iinc (q := 232) (v := nI (p9 + 1)) (lv' := [(2, .int (nI (p9 + 1))), (1, .int (nI (n9 + 1))), (4, .int (nI p9)), (3, .int (nI 1)), (0, .ref m0)]) C 3 dX8_init_229 rfl (nI_1 p9) (by decide) rfl rfl ?_
                refine r_goto (tgt := 154) C dX8_init_232 (by decide) ?_
                refine r_sub (lv' := [(2, .int (nI (p9 + 1))), (1, .int (nI (n9 + 1))), (0, .ref m0)]) [0, 1, 4] rfl ?_
                exact ih (p9 + 1) (n9 + 1) _ _ _ (by omega) ((wd_ne (by decide)).trans wd_eq) wd_eq k3 (fun j hj => by by_cases z : j = n9; rw [z, pk_us]; exact k1; rw [pk_un z]; exact hcu j (by omega)) (fun j hj _ => by by_cases z : j = n9; rw [z, pk_us]; exact k2 hc7; rw [pk_un z]; exact hsq j hj (by omega)) (fun t a b => (wd_ne b).trans ((wd_ne a).trans (gf t a b)))
            | false =>
              rw [e9] at hfl
              subst hfl
              show V g k 5 w1 17 28796 (kQ g k (fun v w' => v = none ∧ MdAt g w' m0 (nI 0) 0 0 0 0 (fun _ => 0) (fun _ => 0) (fun _ => 0) (fun _ => 0) (fun _ => 0) (fun _ => 0) (fun _ => 0) (fun _ => 0) ∧ Fm w w') 17 28796) 195 [(4, .int (nI p9)), (3, .int (nI 0)), (2, .int (nI p9)), (1, .int (nI n9)), (0, .ref m0)] [.int (nI 0)]
              refine r_if_eq_t (tgt := 229) C dX8_init_195 (by decide) (by decide) ?_
              refine r_iinc (q := 232) (v := nI (p9 + 1)) (lv' := [(2, .int (nI (p9 + 1))), (4, .int (nI p9)), (3, .int (nI 0)), (1, .int (nI n9)), (0, .ref m0)]) C 2 dX8_init_229 rfl (nI_1 p9) (by decide) rfl rfl ?_
              refine r_goto (tgt := 154) C dX8_init_232 (by decide) ?_
              refine r_sub (lv' := [(2, .int (nI (p9 + 1))), (1, .int (nI n9)), (0, .ref m0)]) [0, 3, 4] rfl ?_
              exact ih (p9 + 1) n9 cu sq w1 (by omega) g1 g2 (ck9_f hck e9) hcu hsq gf
          | succ u8 ih2 =>
            intro k8 fl9  hi hfl hk2
            refine r_iload (q := 167) C 0 dX8_init_165 rfl rfl ?_
            refine r_iload_n (q := 168) C 2 dX8_init_167 rfl rfl ?_
            refine r_icmp_ge_f (q := 171) (tgt := 194) C dX8_init_168 (by decide) rfl (fun z => absurd ((nI_leI (a := p9) (b := k8) (by omega) (by omega)).mp z) (by omega)) ?_
            refine r_iload_n (q := 172) C 1 dX8_init_171 rfl rfl ?_
            cases e9 : prB p9 k8 with
            | true =>
              rw [e9] at hfl
              subst hfl
              show V g k 5 w1 17 28796 (kQ g k (fun v w' => v = none ∧ MdAt g w' m0 (nI 0) 0 0 0 0 (fun _ => 0) (fun _ => 0) (fun _ => 0) (fun _ => 0) (fun _ => 0) (fun _ => 0) (fun _ => 0) (fun _ => 0) ∧ Fm w w') 17 28796) 172 [(4, .int (nI k8)), (3, .int (nI 1)), (2, .int (nI p9)), (1, .int (nI n9)), (0, .ref m0)] [.int (nI 1)]
              refine r_if_eq_f (q := 175) (tgt := 186) C dX8_init_172 (by decide) rfl (by decide) ?_
              have hmd := Nat.mod_lt p9 (show 0 < k8 by omega)
              refine r_iload_n (q := 176) C 2 dX8_init_175 rfl rfl ?_
              refine r_iload (q := 178) C 0 dX8_init_176 rfl rfl ?_
              refine r_irem (q := 179) C dX8_init_178 (fun z => absurd ((nI_eq (a := k8) (b := 0) (by omega) (by omega)).mp z) (by omega)) rfl ?_
              refine r_ti (show ((nI p9) - (nI p9) / (nI k8) * (nI k8) : Int32) = nI (p9 % k8) from pk_rem (by omega) (by omega) (by omega)) ?_
              refine r_if_eq (q := 182) (tgt := 186) C dX8_init_179 (by decide) rfl (fun hc12 => ?_) (fun hc12 => ?_)
              · have hc12 : (p9 % k8) = 0 := (nI_eq (a := (p9 % k8)) (b := 0) (by omega) (by omega)).mp hc12
                refine r_iconst (q := 187) C (nI 0) dX8_init_186 (by decide) rfl ?_
                refine r_istore_n (q := 188) (lv' := [(3, .int (nI 0)), (4, .int (nI k8)), (2, .int (nI p9)), (1, .int (nI n9)), (0, .ref m0)]) C dX8_init_187 (by decide) rfl rfl ?_
                refine r_iinc (q := 191) (v := nI (k8 + 1)) (lv' := [(4, .int (nI (k8 + 1))), (3, .int (nI 0)), (2, .int (nI p9)), (1, .int (nI n9)), (0, .ref m0)]) C 1 dX8_init_188 rfl (nI_1 k8) (by decide) rfl rfl ?_
                refine r_goto (tgt := 165) C dX8_init_191 (by decide) ?_
                refine r_sub (lv' := [(4, .int (nI (k8 + 1))), (3, .int (nI 0)), (2, .int (nI p9)), (1, .int (nI n9)), (0, .ref m0)]) [0, 1, 2, 3, 4] rfl ?_
                exact ih2 (k8 + 1) 0 (by omega) (by rw [prB_0 hk2 hc12]; rfl) (by omega)
              · have hc12 : ¬ (p9 % k8) = 0 := fun z => hc12 ((nI_eq (a := (p9 % k8)) (b := 0) (by omega) (by omega)).mpr z)
                refine r_iconst (q := 183) C (nI 1) dX8_init_182 (by decide) rfl ?_
                refine r_goto (tgt := 187) C dX8_init_183 (by decide) ?_
                refine r_istore_n (q := 188) (lv' := [(3, .int (nI 1)), (4, .int (nI k8)), (2, .int (nI p9)), (1, .int (nI n9)), (0, .ref m0)]) C dX8_init_187 (by decide) rfl rfl ?_
                refine r_iinc (q := 191) (v := nI (k8 + 1)) (lv' := [(4, .int (nI (k8 + 1))), (3, .int (nI 1)), (2, .int (nI p9)), (1, .int (nI n9)), (0, .ref m0)]) C 1 dX8_init_188 rfl (nI_1 k8) (by decide) rfl rfl ?_
                refine r_goto (tgt := 165) C dX8_init_191 (by decide) ?_
                refine r_sub (lv' := [(4, .int (nI (k8 + 1))), (3, .int (nI 1)), (2, .int (nI p9)), (1, .int (nI n9)), (0, .ref m0)]) [0, 1, 2, 3, 4] rfl ?_
                exact ih2 (k8 + 1) 1 (by omega) (by rw [prB_t e9 hc12]; rfl) (by omega)
            | false =>
              rw [e9] at hfl
              subst hfl
              show V g k 5 w1 17 28796 (kQ g k (fun v w' => v = none ∧ MdAt g w' m0 (nI 0) 0 0 0 0 (fun _ => 0) (fun _ => 0) (fun _ => 0) (fun _ => 0) (fun _ => 0) (fun _ => 0) (fun _ => 0) (fun _ => 0) ∧ Fm w w') 17 28796) 172 [(4, .int (nI k8)), (3, .int (nI 0)), (2, .int (nI p9)), (1, .int (nI n9)), (0, .ref m0)] [.int (nI 0)]
              refine r_if_eq_t (tgt := 186) C dX8_init_172 (by decide) (by decide) ?_
              refine r_iconst (q := 187) C (nI 0) dX8_init_186 (by decide) rfl ?_
              refine r_istore_n (q := 188) (lv' := [(3, .int (nI 0)), (4, .int (nI k8)), (2, .int (nI p9)), (1, .int (nI n9)), (0, .ref m0)]) C dX8_init_187 (by decide) rfl rfl ?_
              refine r_iinc (q := 191) (v := nI (k8 + 1)) (lv' := [(4, .int (nI (k8 + 1))), (3, .int (nI 0)), (2, .int (nI p9)), (1, .int (nI n9)), (0, .ref m0)]) C 1 dX8_init_188 rfl (nI_1 k8) (by decide) rfl rfl ?_
              refine r_goto (tgt := 165) C dX8_init_191 (by decide) ?_
              refine r_sub (lv' := [(4, .int (nI (k8 + 1))), (3, .int (nI 0)), (2, .int (nI p9)), (1, .int (nI n9)), (0, .ref m0)]) [0, 1, 2, 3, 4] rfl ?_
              exact ih2 (k8 + 1) 0 (by omega) (by rw [prB_f e9]; rfl) (by omega)
        exact loop2 (p9 - 2) 2 1 (by omega) rfl (by decide)
  exact loop 310 2 0 _ _ y1w (by omega) y11 y12 ck9_all (fun j hj => absurd hj (Nat.not_lt_zero j)) (fun j _ hj => absurd hj (Nat.not_lt_zero j)) (fun _ _ _ => rfl)
