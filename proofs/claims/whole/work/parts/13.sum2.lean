/-! Sum: readWords, mixWords, finish, copyTo, isAt -/
set_option maxHeartbeats 4000000 in
set_option maxRecDepth 20000 in
theorem c_mixWords {l : Launch} {g : cx_G} {w : wd_T} {a0 am aw as9 : Nat} {n : Int32} {wds sta : Nat → Int32} (h0 : w 110 = some (a0, ob 3 [.ref am, .ref aw, .ref as9, .int n])) (h2 : w 112 = some (aw, aI g 64 wds)) (h3 : w 113 = some (as9, aI g 8 sta)) : Mt l g yX3_mixWords cX3_mixWords 12 none 1 0 0 w [.ref a0] (fun v w' => v = none ∧ (∃ sta' : Nat → Int32, w' 113 = some (as9, aI g 8 sta') ∧ ∀ j, j < 8 → sta' j = sta j + rds wds 64 sta j) ∧ Fr w w' 113 114) := by
  refine mt_of RX3 "mixWords" rfl rfl (by decide) (Nat.le_of_ble_eq_true rfl) [(0, .ref a0)] rfl ?_
  intro k hkl C hin
  subst hkl
  refine r_aload_n C 0 dX3_mixWords_0 rfl rfl ?_
  refine r_get (t := 110) C koX3 h0 2 (by decide) q89 rfl rfl dX3_mixWords_1 rfl ?_
  refine r_iconst C (nI 0) dX3_mixWords_4 (by decide) rfl ?_
  refine r_iald (t := 113) C h3 0 rfl (by decide) (by decide) dX3_mixWords_5 rfl ?_
  refine r_istore_n (lv' := [(1, .int (sta 0)), (0, .ref a0)]) C dX3_mixWords_6 (by decide) rfl rfl ?_
  refine r_aload_n C 1 dX3_mixWords_7 rfl rfl ?_
  refine r_get (t := 110) C koX3 h0 2 (by decide) q89 rfl rfl dX3_mixWords_8 rfl ?_
  refine r_iconst C (nI 1) dX3_mixWords_11 (by decide) rfl ?_
  refine r_iald (t := 113) C h3 1 rfl (by decide) (by decide) dX3_mixWords_12 rfl ?_
  refine r_istore_n (lv' := [(2, .int (sta 1)), (1, .int (sta 0)), (0, .ref a0)]) C dX3_mixWords_13 (by decide) rfl rfl ?_
  refine r_aload_n C 2 dX3_mixWords_14 rfl rfl ?_
  refine r_get (t := 110) C koX3 h0 2 (by decide) q89 rfl rfl dX3_mixWords_15 rfl ?_
  refine r_iconst C (nI 2) dX3_mixWords_18 (by decide) rfl ?_
  refine r_iald (t := 113) C h3 2 rfl (by decide) (by decide) dX3_mixWords_19 rfl ?_
  refine r_istore_n (lv' := [(3, .int (sta 2)), (2, .int (sta 1)), (1, .int (sta 0)), (0, .ref a0)]) C dX3_mixWords_20 (by decide) rfl rfl ?_
  refine r_aload_n C 3 dX3_mixWords_21 rfl rfl ?_
  refine r_get (t := 110) C koX3 h0 2 (by decide) q89 rfl rfl dX3_mixWords_22 rfl ?_
  refine r_iconst C (nI 3) dX3_mixWords_25 (by decide) rfl ?_
  refine r_iald (t := 113) C h3 3 rfl (by decide) (by decide) dX3_mixWords_26 rfl ?_
  refine r_istore (lv' := [(4, .int (sta 3)), (3, .int (sta 2)), (2, .int (sta 1)), (1, .int (sta 0)), (0, .ref a0)]) C dX3_mixWords_27 (by decide) rfl rfl ?_
  refine r_aload_n C 4 dX3_mixWords_29 rfl rfl ?_
  refine r_get (t := 110) C koX3 h0 2 (by decide) q89 rfl rfl dX3_mixWords_30 rfl ?_
  refine r_iconst C (nI 4) dX3_mixWords_33 (by decide) rfl ?_
  refine r_iald (t := 113) C h3 4 rfl (by decide) (by decide) dX3_mixWords_34 rfl ?_
  refine r_istore (lv' := [(5, .int (sta 4)), (4, .int (sta 3)), (3, .int (sta 2)), (2, .int (sta 1)), (1, .int (sta 0)), (0, .ref a0)]) C dX3_mixWords_35 (by decide) rfl rfl ?_
  refine r_aload_n C 5 dX3_mixWords_37 rfl rfl ?_
  refine r_get (t := 110) C koX3 h0 2 (by decide) q89 rfl rfl dX3_mixWords_38 rfl ?_
  refine r_iconst C (nI 5) dX3_mixWords_41 (by decide) rfl ?_
  refine r_iald (t := 113) C h3 5 rfl (by decide) (by decide) dX3_mixWords_42 rfl ?_
  refine r_istore (lv' := [(6, .int (sta 5)), (5, .int (sta 4)), (4, .int (sta 3)), (3, .int (sta 2)), (2, .int (sta 1)), (1, .int (sta 0)), (0, .ref a0)]) C dX3_mixWords_43 (by decide) rfl rfl ?_
  refine r_aload_n C 6 dX3_mixWords_45 rfl rfl ?_
  refine r_get (t := 110) C koX3 h0 2 (by decide) q89 rfl rfl dX3_mixWords_46 rfl ?_
  refine r_bipush C (nI 6) dX3_mixWords_49 (by decide) rfl ?_
  refine r_iald (t := 113) C h3 6 rfl (by decide) (by decide) dX3_mixWords_51 rfl ?_
  refine r_istore (lv' := [(7, .int (sta 6)), (6, .int (sta 5)), (5, .int (sta 4)), (4, .int (sta 3)), (3, .int (sta 2)), (2, .int (sta 1)), (1, .int (sta 0)), (0, .ref a0)]) C dX3_mixWords_52 (by decide) rfl rfl ?_
  refine r_aload_n C 7 dX3_mixWords_54 rfl rfl ?_
  refine r_get (t := 110) C koX3 h0 2 (by decide) q89 rfl rfl dX3_mixWords_55 rfl ?_
  refine r_bipush C (nI 7) dX3_mixWords_58 (by decide) rfl ?_
  refine r_iald (t := 113) C h3 7 rfl (by decide) (by decide) dX3_mixWords_60 rfl ?_
  refine r_istore (lv' := [(8, .int (sta 7)), (7, .int (sta 6)), (6, .int (sta 5)), (5, .int (sta 4)), (4, .int (sta 3)), (3, .int (sta 2)), (2, .int (sta 1)), (1, .int (sta 0)), (0, .ref a0)]) C dX3_mixWords_61 (by decide) rfl rfl ?_
  refine r_iconst C (nI 0) dX3_mixWords_63 (by decide) rfl ?_
  refine r_istore (lv' := [(9, .int (nI 0)), (8, .int (sta 7)), (7, .int (sta 6)), (6, .int (sta 5)), (5, .int (sta 4)), (4, .int (sta 3)), (3, .int (sta 2)), (2, .int (sta 1)), (1, .int (sta 0)), (0, .ref a0)]) C dX3_mixWords_64 (by decide) rfl rfl ?_
  refine r_sub (lv' := [(1, .int (sta 0)), (2, .int (sta 1)), (3, .int (sta 2)), (4, .int (sta 3)), (5, .int (sta 4)), (6, .int (sta 5)), (7, .int (sta 6)), (8, .int (sta 7)), (9, .int (nI 0)), (0, .ref a0)]) [8, 7, 6, 5, 4, 3, 2, 1, 0, 9] rfl ?_
  have loop : ∀ (r t : Nat)  , t + r = 64 → V g k 12 w 0 0 (kQ g k (fun v w' => v = none ∧ (∃ sta' : Nat → Int32, w' 113 = some (as9, aI g 8 sta') ∧ ∀ j, j < 8 → sta' j = sta j + rds wds 64 sta j) ∧ Fr w w' 113 114) 0 0) 66 [(1, .int (rds wds t sta 0)), (2, .int (rds wds t sta 1)), (3, .int (rds wds t sta 2)), (4, .int (rds wds t sta 3)), (5, .int (rds wds t sta 4)), (6, .int (rds wds t sta 5)), (7, .int (rds wds t sta 6)), (8, .int (rds wds t sta 7)), (9, .int (nI t)), (0, .ref a0)] [] := by
    intro r
    induction r with
    | zero =>
      intro t   hi 
      refine r_iload C 8 dX3_mixWords_66 rfl rfl ?_
      refine r_bipush C (nI 64) dX3_mixWords_68 (by decide) rfl ?_
      refine r_icmp_ge_t (tgt := 201) C dX3_mixWords_70 (by decide) ((nI_leI (a := 64) (b := t) (by omega) (by omega)).mpr (by omega)) ?_
      obtain rfl : t = 64 := by omega
      refine r_aload_n C 9 dX3_mixWords_201 rfl rfl ?_
      refine r_get (t := 110) C koX3 h0 2 (by decide) q89 rfl rfl dX3_mixWords_202 rfl ?_
      refine r_iconst C (nI 0) dX3_mixWords_205 (by decide) rfl ?_
      refine r_dup2 C dX3_mixWords_206 rfl rfl rfl ?_
      refine r_iald (t := 113) C h3 0 rfl (by decide) (by decide) dX3_mixWords_207 rfl ?_
      refine r_iload_n C 0 dX3_mixWords_208 rfl rfl ?_
      refine r_iadd C dX3_mixWords_209 rfl ?_
      refine r_iast (t := 113) (w' := wd_set w 113 as9 (aI g 8 (upd sta 0 ((sta 0) + (rds wds 64 sta 0))))) C h3 0 rfl (by decide) (by decide) dX3_mixWords_210 rfl rfl ?_
      refine r_aload_n C 9 dX3_mixWords_211 rfl rfl ?_
      refine r_get (t := 110) C koX3 ((wd_ne (by decide)).trans h0) 2 (by decide) q89 rfl rfl dX3_mixWords_212 rfl ?_
      refine r_iconst C (nI 1) dX3_mixWords_215 (by decide) rfl ?_
      refine r_dup2 C dX3_mixWords_216 rfl rfl rfl ?_
      refine r_iald (t := 113) C wd_eq 1 rfl (by decide) (by decide) dX3_mixWords_217 rfl ?_
      refine r_iload_n C 1 dX3_mixWords_218 rfl rfl ?_
      refine r_iadd C dX3_mixWords_219 rfl ?_
      refine r_iast (t := 113) (w' := wd_set w 113 as9 (aI g 8 (upd (upd sta 0 ((sta 0) + (rds wds 64 sta 0))) 1 (((upd sta 0 ((sta 0) + (rds wds 64 sta 0))) 1) + (rds wds 64 sta 1))))) C wd_eq 1 rfl (by decide) (by decide) dX3_mixWords_220 rfl wd_ss ?_
      refine r_aload_n C 9 dX3_mixWords_221 rfl rfl ?_
      refine r_get (t := 110) C koX3 ((wd_ne (by decide)).trans h0) 2 (by decide) q89 rfl rfl dX3_mixWords_222 rfl ?_
      refine r_iconst C (nI 2) dX3_mixWords_225 (by decide) rfl ?_
      refine r_dup2 C dX3_mixWords_226 rfl rfl rfl ?_
      refine r_iald (t := 113) C wd_eq 2 rfl (by decide) (by decide) dX3_mixWords_227 rfl ?_
      refine r_iload_n C 2 dX3_mixWords_228 rfl rfl ?_
      refine r_iadd C dX3_mixWords_229 rfl ?_
      refine r_iast (t := 113) (w' := wd_set w 113 as9 (aI g 8 (upd (upd (upd sta 0 ((sta 0) + (rds wds 64 sta 0))) 1 (((upd sta 0 ((sta 0) + (rds wds 64 sta 0))) 1) + (rds wds 64 sta 1))) 2 (((upd (upd sta 0 ((sta 0) + (rds wds 64 sta 0))) 1 (((upd sta 0 ((sta 0) + (rds wds 64 sta 0))) 1) + (rds wds 64 sta 1))) 2) + (rds wds 64 sta 2))))) C wd_eq 2 rfl (by decide) (by decide) dX3_mixWords_230 rfl wd_ss ?_
      refine r_aload_n C 9 dX3_mixWords_231 rfl rfl ?_
      refine r_get (t := 110) C koX3 ((wd_ne (by decide)).trans h0) 2 (by decide) q89 rfl rfl dX3_mixWords_232 rfl ?_
      refine r_iconst C (nI 3) dX3_mixWords_235 (by decide) rfl ?_
      refine r_dup2 C dX3_mixWords_236 rfl rfl rfl ?_
      refine r_iald (t := 113) C wd_eq 3 rfl (by decide) (by decide) dX3_mixWords_237 rfl ?_
      refine r_iload C 3 dX3_mixWords_238 rfl rfl ?_
      refine r_iadd C dX3_mixWords_240 rfl ?_
      refine r_iast (t := 113) (w' := wd_set w 113 as9 (aI g 8 (upd (upd (upd (upd sta 0 ((sta 0) + (rds wds 64 sta 0))) 1 (((upd sta 0 ((sta 0) + (rds wds 64 sta 0))) 1) + (rds wds 64 sta 1))) 2 (((upd (upd sta 0 ((sta 0) + (rds wds 64 sta 0))) 1 (((upd sta 0 ((sta 0) + (rds wds 64 sta 0))) 1) + (rds wds 64 sta 1))) 2) + (rds wds 64 sta 2))) 3 (((upd (upd (upd sta 0 ((sta 0) + (rds wds 64 sta 0))) 1 (((upd sta 0 ((sta 0) + (rds wds 64 sta 0))) 1) + (rds wds 64 sta 1))) 2 (((upd (upd sta 0 ((sta 0) + (rds wds 64 sta 0))) 1 (((upd sta 0 ((sta 0) + (rds wds 64 sta 0))) 1) + (rds wds 64 sta 1))) 2) + (rds wds 64 sta 2))) 3) + (rds wds 64 sta 3))))) C wd_eq 3 rfl (by decide) (by decide) dX3_mixWords_241 rfl wd_ss ?_
      refine r_aload_n C 9 dX3_mixWords_242 rfl rfl ?_
      refine r_get (t := 110) C koX3 ((wd_ne (by decide)).trans h0) 2 (by decide) q89 rfl rfl dX3_mixWords_243 rfl ?_
      refine r_iconst C (nI 4) dX3_mixWords_246 (by decide) rfl ?_
      refine r_dup2 C dX3_mixWords_247 rfl rfl rfl ?_
      refine r_iald (t := 113) C wd_eq 4 rfl (by decide) (by decide) dX3_mixWords_248 rfl ?_
      refine r_iload C 4 dX3_mixWords_249 rfl rfl ?_
      refine r_iadd C dX3_mixWords_251 rfl ?_
      refine r_iast (t := 113) (w' := wd_set w 113 as9 (aI g 8 (upd (upd (upd (upd (upd sta 0 ((sta 0) + (rds wds 64 sta 0))) 1 (((upd sta 0 ((sta 0) + (rds wds 64 sta 0))) 1) + (rds wds 64 sta 1))) 2 (((upd (upd sta 0 ((sta 0) + (rds wds 64 sta 0))) 1 (((upd sta 0 ((sta 0) + (rds wds 64 sta 0))) 1) + (rds wds 64 sta 1))) 2) + (rds wds 64 sta 2))) 3 (((upd (upd (upd sta 0 ((sta 0) + (rds wds 64 sta 0))) 1 (((upd sta 0 ((sta 0) + (rds wds 64 sta 0))) 1) + (rds wds 64 sta 1))) 2 (((upd (upd sta 0 ((sta 0) + (rds wds 64 sta 0))) 1 (((upd sta 0 ((sta 0) + (rds wds 64 sta 0))) 1) + (rds wds 64 sta 1))) 2) + (rds wds 64 sta 2))) 3) + (rds wds 64 sta 3))) 4 (((upd (upd (upd (upd sta 0 ((sta 0) + (rds wds 64 sta 0))) 1 (((upd sta 0 ((sta 0) + (rds wds 64 sta 0))) 1) + (rds wds 64 sta 1))) 2 (((upd (upd sta 0 ((sta 0) + (rds wds 64 sta 0))) 1 (((upd sta 0 ((sta 0) + (rds wds 64 sta 0))) 1) + (rds wds 64 sta 1))) 2) + (rds wds 64 sta 2))) 3 (((upd (upd (upd sta 0 ((sta 0) + (rds wds 64 sta 0))) 1 (((upd sta 0 ((sta 0) + (rds wds 64 sta 0))) 1) + (rds wds 64 sta 1))) 2 (((upd (upd sta 0 ((sta 0) + (rds wds 64 sta 0))) 1 (((upd sta 0 ((sta 0) + (rds wds 64 sta 0))) 1) + (rds wds 64 sta 1))) 2) + (rds wds 64 sta 2))) 3) + (rds wds 64 sta 3))) 4) + (rds wds 64 sta 4))))) C wd_eq 4 rfl (by decide) (by decide) dX3_mixWords_252 rfl wd_ss ?_
      refine r_aload_n C 9 dX3_mixWords_253 rfl rfl ?_
      refine r_get (t := 110) C koX3 ((wd_ne (by decide)).trans h0) 2 (by decide) q89 rfl rfl dX3_mixWords_254 rfl ?_
      refine r_iconst C (nI 5) dX3_mixWords_257 (by decide) rfl ?_
      refine r_dup2 C dX3_mixWords_258 rfl rfl rfl ?_
      refine r_iald (t := 113) C wd_eq 5 rfl (by decide) (by decide) dX3_mixWords_259 rfl ?_
      refine r_iload C 5 dX3_mixWords_260 rfl rfl ?_
      refine r_iadd C dX3_mixWords_262 rfl ?_
      refine r_iast (t := 113) (w' := wd_set w 113 as9 (aI g 8 (upd (upd (upd (upd (upd (upd sta 0 ((sta 0) + (rds wds 64 sta 0))) 1 (((upd sta 0 ((sta 0) + (rds wds 64 sta 0))) 1) + (rds wds 64 sta 1))) 2 (((upd (upd sta 0 ((sta 0) + (rds wds 64 sta 0))) 1 (((upd sta 0 ((sta 0) + (rds wds 64 sta 0))) 1) + (rds wds 64 sta 1))) 2) + (rds wds 64 sta 2))) 3 (((upd (upd (upd sta 0 ((sta 0) + (rds wds 64 sta 0))) 1 (((upd sta 0 ((sta 0) + (rds wds 64 sta 0))) 1) + (rds wds 64 sta 1))) 2 (((upd (upd sta 0 ((sta 0) + (rds wds 64 sta 0))) 1 (((upd sta 0 ((sta 0) + (rds wds 64 sta 0))) 1) + (rds wds 64 sta 1))) 2) + (rds wds 64 sta 2))) 3) + (rds wds 64 sta 3))) 4 (((upd (upd (upd (upd sta 0 ((sta 0) + (rds wds 64 sta 0))) 1 (((upd sta 0 ((sta 0) + (rds wds 64 sta 0))) 1) + (rds wds 64 sta 1))) 2 (((upd (upd sta 0 ((sta 0) + (rds wds 64 sta 0))) 1 (((upd sta 0 ((sta 0) + (rds wds 64 sta 0))) 1) + (rds wds 64 sta 1))) 2) + (rds wds 64 sta 2))) 3 (((upd (upd (upd sta 0 ((sta 0) + (rds wds 64 sta 0))) 1 (((upd sta 0 ((sta 0) + (rds wds 64 sta 0))) 1) + (rds wds 64 sta 1))) 2 (((upd (upd sta 0 ((sta 0) + (rds wds 64 sta 0))) 1 (((upd sta 0 ((sta 0) + (rds wds 64 sta 0))) 1) + (rds wds 64 sta 1))) 2) + (rds wds 64 sta 2))) 3) + (rds wds 64 sta 3))) 4) + (rds wds 64 sta 4))) 5 (((upd (upd (upd (upd (upd sta 0 ((sta 0) + (rds wds 64 sta 0))) 1 (((upd sta 0 ((sta 0) + (rds wds 64 sta 0))) 1) + (rds wds 64 sta 1))) 2 (((upd (upd sta 0 ((sta 0) + (rds wds 64 sta 0))) 1 (((upd sta 0 ((sta 0) + (rds wds 64 sta 0))) 1) + (rds wds 64 sta 1))) 2) + (rds wds 64 sta 2))) 3 (((upd (upd (upd sta 0 ((sta 0) + (rds wds 64 sta 0))) 1 (((upd sta 0 ((sta 0) + (rds wds 64 sta 0))) 1) + (rds wds 64 sta 1))) 2 (((upd (upd sta 0 ((sta 0) + (rds wds 64 sta 0))) 1 (((upd sta 0 ((sta 0) + (rds wds 64 sta 0))) 1) + (rds wds 64 sta 1))) 2) + (rds wds 64 sta 2))) 3) + (rds wds 64 sta 3))) 4 (((upd (upd (upd (upd sta 0 ((sta 0) + (rds wds 64 sta 0))) 1 (((upd sta 0 ((sta 0) + (rds wds 64 sta 0))) 1) + (rds wds 64 sta 1))) 2 (((upd (upd sta 0 ((sta 0) + (rds wds 64 sta 0))) 1 (((upd sta 0 ((sta 0) + (rds wds 64 sta 0))) 1) + (rds wds 64 sta 1))) 2) + (rds wds 64 sta 2))) 3 (((upd (upd (upd sta 0 ((sta 0) + (rds wds 64 sta 0))) 1 (((upd sta 0 ((sta 0) + (rds wds 64 sta 0))) 1) + (rds wds 64 sta 1))) 2 (((upd (upd sta 0 ((sta 0) + (rds wds 64 sta 0))) 1 (((upd sta 0 ((sta 0) + (rds wds 64 sta 0))) 1) + (rds wds 64 sta 1))) 2) + (rds wds 64 sta 2))) 3) + (rds wds 64 sta 3))) 4) + (rds wds 64 sta 4))) 5) + (rds wds 64 sta 5))))) C wd_eq 5 rfl (by decide) (by decide) dX3_mixWords_263 rfl wd_ss ?_
      refine r_aload_n C 9 dX3_mixWords_264 rfl rfl ?_
      refine r_get (t := 110) C koX3 ((wd_ne (by decide)).trans h0) 2 (by decide) q89 rfl rfl dX3_mixWords_265 rfl ?_
      refine r_bipush C (nI 6) dX3_mixWords_268 (by decide) rfl ?_
      refine r_dup2 C dX3_mixWords_270 rfl rfl rfl ?_
      refine r_iald (t := 113) C wd_eq 6 rfl (by decide) (by decide) dX3_mixWords_271 rfl ?_
      refine r_iload C 6 dX3_mixWords_272 rfl rfl ?_
      refine r_iadd C dX3_mixWords_274 rfl ?_
      refine r_iast (t := 113) (w' := wd_set w 113 as9 (aI g 8 (upd (upd (upd (upd (upd (upd (upd sta 0 ((sta 0) + (rds wds 64 sta 0))) 1 (((upd sta 0 ((sta 0) + (rds wds 64 sta 0))) 1) + (rds wds 64 sta 1))) 2 (((upd (upd sta 0 ((sta 0) + (rds wds 64 sta 0))) 1 (((upd sta 0 ((sta 0) + (rds wds 64 sta 0))) 1) + (rds wds 64 sta 1))) 2) + (rds wds 64 sta 2))) 3 (((upd (upd (upd sta 0 ((sta 0) + (rds wds 64 sta 0))) 1 (((upd sta 0 ((sta 0) + (rds wds 64 sta 0))) 1) + (rds wds 64 sta 1))) 2 (((upd (upd sta 0 ((sta 0) + (rds wds 64 sta 0))) 1 (((upd sta 0 ((sta 0) + (rds wds 64 sta 0))) 1) + (rds wds 64 sta 1))) 2) + (rds wds 64 sta 2))) 3) + (rds wds 64 sta 3))) 4 (((upd (upd (upd (upd sta 0 ((sta 0) + (rds wds 64 sta 0))) 1 (((upd sta 0 ((sta 0) + (rds wds 64 sta 0))) 1) + (rds wds 64 sta 1))) 2 (((upd (upd sta 0 ((sta 0) + (rds wds 64 sta 0))) 1 (((upd sta 0 ((sta 0) + (rds wds 64 sta 0))) 1) + (rds wds 64 sta 1))) 2) + (rds wds 64 sta 2))) 3 (((upd (upd (upd sta 0 ((sta 0) + (rds wds 64 sta 0))) 1 (((upd sta 0 ((sta 0) + (rds wds 64 sta 0))) 1) + (rds wds 64 sta 1))) 2 (((upd (upd sta 0 ((sta 0) + (rds wds 64 sta 0))) 1 (((upd sta 0 ((sta 0) + (rds wds 64 sta 0))) 1) + (rds wds 64 sta 1))) 2) + (rds wds 64 sta 2))) 3) + (rds wds 64 sta 3))) 4) + (rds wds 64 sta 4))) 5 (((upd (upd (upd (upd (upd sta 0 ((sta 0) + (rds wds 64 sta 0))) 1 (((upd sta 0 ((sta 0) + (rds wds 64 sta 0))) 1) + (rds wds 64 sta 1))) 2 (((upd (upd sta 0 ((sta 0) + (rds wds 64 sta 0))) 1 (((upd sta 0 ((sta 0) + (rds wds 64 sta 0))) 1) + (rds wds 64 sta 1))) 2) + (rds wds 64 sta 2))) 3 (((upd (upd (upd sta 0 ((sta 0) + (rds wds 64 sta 0))) 1 (((upd sta 0 ((sta 0) + (rds wds 64 sta 0))) 1) + (rds wds 64 sta 1))) 2 (((upd (upd sta 0 ((sta 0) + (rds wds 64 sta 0))) 1 (((upd sta 0 ((sta 0) + (rds wds 64 sta 0))) 1) + (rds wds 64 sta 1))) 2) + (rds wds 64 sta 2))) 3) + (rds wds 64 sta 3))) 4 (((upd (upd (upd (upd sta 0 ((sta 0) + (rds wds 64 sta 0))) 1 (((upd sta 0 ((sta 0) + (rds wds 64 sta 0))) 1) + (rds wds 64 sta 1))) 2 (((upd (upd sta 0 ((sta 0) + (rds wds 64 sta 0))) 1 (((upd sta 0 ((sta 0) + (rds wds 64 sta 0))) 1) + (rds wds 64 sta 1))) 2) + (rds wds 64 sta 2))) 3 (((upd (upd (upd sta 0 ((sta 0) + (rds wds 64 sta 0))) 1 (((upd sta 0 ((sta 0) + (rds wds 64 sta 0))) 1) + (rds wds 64 sta 1))) 2 (((upd (upd sta 0 ((sta 0) + (rds wds 64 sta 0))) 1 (((upd sta 0 ((sta 0) + (rds wds 64 sta 0))) 1) + (rds wds 64 sta 1))) 2) + (rds wds 64 sta 2))) 3) + (rds wds 64 sta 3))) 4) + (rds wds 64 sta 4))) 5) + (rds wds 64 sta 5))) 6 (((upd (upd (upd (upd (upd (upd sta 0 ((sta 0) + (rds wds 64 sta 0))) 1 (((upd sta 0 ((sta 0) + (rds wds 64 sta 0))) 1) + (rds wds 64 sta 1))) 2 (((upd (upd sta 0 ((sta 0) + (rds wds 64 sta 0))) 1 (((upd sta 0 ((sta 0) + (rds wds 64 sta 0))) 1) + (rds wds 64 sta 1))) 2) + (rds wds 64 sta 2))) 3 (((upd (upd (upd sta 0 ((sta 0) + (rds wds 64 sta 0))) 1 (((upd sta 0 ((sta 0) + (rds wds 64 sta 0))) 1) + (rds wds 64 sta 1))) 2 (((upd (upd sta 0 ((sta 0) + (rds wds 64 sta 0))) 1 (((upd sta 0 ((sta 0) + (rds wds 64 sta 0))) 1) + (rds wds 64 sta 1))) 2) + (rds wds 64 sta 2))) 3) + (rds wds 64 sta 3))) 4 (((upd (upd (upd (upd sta 0 ((sta 0) + (rds wds 64 sta 0))) 1 (((upd sta 0 ((sta 0) + (rds wds 64 sta 0))) 1) + (rds wds 64 sta 1))) 2 (((upd (upd sta 0 ((sta 0) + (rds wds 64 sta 0))) 1 (((upd sta 0 ((sta 0) + (rds wds 64 sta 0))) 1) + (rds wds 64 sta 1))) 2) + (rds wds 64 sta 2))) 3 (((upd (upd (upd sta 0 ((sta 0) + (rds wds 64 sta 0))) 1 (((upd sta 0 ((sta 0) + (rds wds 64 sta 0))) 1) + (rds wds 64 sta 1))) 2 (((upd (upd sta 0 ((sta 0) + (rds wds 64 sta 0))) 1 (((upd sta 0 ((sta 0) + (rds wds 64 sta 0))) 1) + (rds wds 64 sta 1))) 2) + (rds wds 64 sta 2))) 3) + (rds wds 64 sta 3))) 4) + (rds wds 64 sta 4))) 5 (((upd (upd (upd (upd (upd sta 0 ((sta 0) + (rds wds 64 sta 0))) 1 (((upd sta 0 ((sta 0) + (rds wds 64 sta 0))) 1) + (rds wds 64 sta 1))) 2 (((upd (upd sta 0 ((sta 0) + (rds wds 64 sta 0))) 1 (((upd sta 0 ((sta 0) + (rds wds 64 sta 0))) 1) + (rds wds 64 sta 1))) 2) + (rds wds 64 sta 2))) 3 (((upd (upd (upd sta 0 ((sta 0) + (rds wds 64 sta 0))) 1 (((upd sta 0 ((sta 0) + (rds wds 64 sta 0))) 1) + (rds wds 64 sta 1))) 2 (((upd (upd sta 0 ((sta 0) + (rds wds 64 sta 0))) 1 (((upd sta 0 ((sta 0) + (rds wds 64 sta 0))) 1) + (rds wds 64 sta 1))) 2) + (rds wds 64 sta 2))) 3) + (rds wds 64 sta 3))) 4 (((upd (upd (upd (upd sta 0 ((sta 0) + (rds wds 64 sta 0))) 1 (((upd sta 0 ((sta 0) + (rds wds 64 sta 0))) 1) + (rds wds 64 sta 1))) 2 (((upd (upd sta 0 ((sta 0) + (rds wds 64 sta 0))) 1 (((upd sta 0 ((sta 0) + (rds wds 64 sta 0))) 1) + (rds wds 64 sta 1))) 2) + (rds wds 64 sta 2))) 3 (((upd (upd (upd sta 0 ((sta 0) + (rds wds 64 sta 0))) 1 (((upd sta 0 ((sta 0) + (rds wds 64 sta 0))) 1) + (rds wds 64 sta 1))) 2 (((upd (upd sta 0 ((sta 0) + (rds wds 64 sta 0))) 1 (((upd sta 0 ((sta 0) + (rds wds 64 sta 0))) 1) + (rds wds 64 sta 1))) 2) + (rds wds 64 sta 2))) 3) + (rds wds 64 sta 3))) 4) + (rds wds 64 sta 4))) 5) + (rds wds 64 sta 5))) 6) + (rds wds 64 sta 6))))) C wd_eq 6 rfl (by decide) (by decide) dX3_mixWords_275 rfl wd_ss ?_
      refine r_aload_n C 9 dX3_mixWords_276 rfl rfl ?_
      refine r_get (t := 110) C koX3 ((wd_ne (by decide)).trans h0) 2 (by decide) q89 rfl rfl dX3_mixWords_277 rfl ?_
      refine r_bipush C (nI 7) dX3_mixWords_280 (by decide) rfl ?_
      refine r_dup2 C dX3_mixWords_282 rfl rfl rfl ?_
      refine r_iald (t := 113) C wd_eq 7 rfl (by decide) (by decide) dX3_mixWords_283 rfl ?_
      refine r_iload C 7 dX3_mixWords_284 rfl rfl ?_
      refine r_iadd C dX3_mixWords_286 rfl ?_
      refine r_iast (t := 113) (w' := wd_set w 113 as9 (aI g 8 (upd (upd (upd (upd (upd (upd (upd (upd sta 0 ((sta 0) + (rds wds 64 sta 0))) 1 (((upd sta 0 ((sta 0) + (rds wds 64 sta 0))) 1) + (rds wds 64 sta 1))) 2 (((upd (upd sta 0 ((sta 0) + (rds wds 64 sta 0))) 1 (((upd sta 0 ((sta 0) + (rds wds 64 sta 0))) 1) + (rds wds 64 sta 1))) 2) + (rds wds 64 sta 2))) 3 (((upd (upd (upd sta 0 ((sta 0) + (rds wds 64 sta 0))) 1 (((upd sta 0 ((sta 0) + (rds wds 64 sta 0))) 1) + (rds wds 64 sta 1))) 2 (((upd (upd sta 0 ((sta 0) + (rds wds 64 sta 0))) 1 (((upd sta 0 ((sta 0) + (rds wds 64 sta 0))) 1) + (rds wds 64 sta 1))) 2) + (rds wds 64 sta 2))) 3) + (rds wds 64 sta 3))) 4 (((upd (upd (upd (upd sta 0 ((sta 0) + (rds wds 64 sta 0))) 1 (((upd sta 0 ((sta 0) + (rds wds 64 sta 0))) 1) + (rds wds 64 sta 1))) 2 (((upd (upd sta 0 ((sta 0) + (rds wds 64 sta 0))) 1 (((upd sta 0 ((sta 0) + (rds wds 64 sta 0))) 1) + (rds wds 64 sta 1))) 2) + (rds wds 64 sta 2))) 3 (((upd (upd (upd sta 0 ((sta 0) + (rds wds 64 sta 0))) 1 (((upd sta 0 ((sta 0) + (rds wds 64 sta 0))) 1) + (rds wds 64 sta 1))) 2 (((upd (upd sta 0 ((sta 0) + (rds wds 64 sta 0))) 1 (((upd sta 0 ((sta 0) + (rds wds 64 sta 0))) 1) + (rds wds 64 sta 1))) 2) + (rds wds 64 sta 2))) 3) + (rds wds 64 sta 3))) 4) + (rds wds 64 sta 4))) 5 (((upd (upd (upd (upd (upd sta 0 ((sta 0) + (rds wds 64 sta 0))) 1 (((upd sta 0 ((sta 0) + (rds wds 64 sta 0))) 1) + (rds wds 64 sta 1))) 2 (((upd (upd sta 0 ((sta 0) + (rds wds 64 sta 0))) 1 (((upd sta 0 ((sta 0) + (rds wds 64 sta 0))) 1) + (rds wds 64 sta 1))) 2) + (rds wds 64 sta 2))) 3 (((upd (upd (upd sta 0 ((sta 0) + (rds wds 64 sta 0))) 1 (((upd sta 0 ((sta 0) + (rds wds 64 sta 0))) 1) + (rds wds 64 sta 1))) 2 (((upd (upd sta 0 ((sta 0) + (rds wds 64 sta 0))) 1 (((upd sta 0 ((sta 0) + (rds wds 64 sta 0))) 1) + (rds wds 64 sta 1))) 2) + (rds wds 64 sta 2))) 3) + (rds wds 64 sta 3))) 4 (((upd (upd (upd (upd sta 0 ((sta 0) + (rds wds 64 sta 0))) 1 (((upd sta 0 ((sta 0) + (rds wds 64 sta 0))) 1) + (rds wds 64 sta 1))) 2 (((upd (upd sta 0 ((sta 0) + (rds wds 64 sta 0))) 1 (((upd sta 0 ((sta 0) + (rds wds 64 sta 0))) 1) + (rds wds 64 sta 1))) 2) + (rds wds 64 sta 2))) 3 (((upd (upd (upd sta 0 ((sta 0) + (rds wds 64 sta 0))) 1 (((upd sta 0 ((sta 0) + (rds wds 64 sta 0))) 1) + (rds wds 64 sta 1))) 2 (((upd (upd sta 0 ((sta 0) + (rds wds 64 sta 0))) 1 (((upd sta 0 ((sta 0) + (rds wds 64 sta 0))) 1) + (rds wds 64 sta 1))) 2) + (rds wds 64 sta 2))) 3) + (rds wds 64 sta 3))) 4) + (rds wds 64 sta 4))) 5) + (rds wds 64 sta 5))) 6 (((upd (upd (upd (upd (upd (upd sta 0 ((sta 0) + (rds wds 64 sta 0))) 1 (((upd sta 0 ((sta 0) + (rds wds 64 sta 0))) 1) + (rds wds 64 sta 1))) 2 (((upd (upd sta 0 ((sta 0) + (rds wds 64 sta 0))) 1 (((upd sta 0 ((sta 0) + (rds wds 64 sta 0))) 1) + (rds wds 64 sta 1))) 2) + (rds wds 64 sta 2))) 3 (((upd (upd (upd sta 0 ((sta 0) + (rds wds 64 sta 0))) 1 (((upd sta 0 ((sta 0) + (rds wds 64 sta 0))) 1) + (rds wds 64 sta 1))) 2 (((upd (upd sta 0 ((sta 0) + (rds wds 64 sta 0))) 1 (((upd sta 0 ((sta 0) + (rds wds 64 sta 0))) 1) + (rds wds 64 sta 1))) 2) + (rds wds 64 sta 2))) 3) + (rds wds 64 sta 3))) 4 (((upd (upd (upd (upd sta 0 ((sta 0) + (rds wds 64 sta 0))) 1 (((upd sta 0 ((sta 0) + (rds wds 64 sta 0))) 1) + (rds wds 64 sta 1))) 2 (((upd (upd sta 0 ((sta 0) + (rds wds 64 sta 0))) 1 (((upd sta 0 ((sta 0) + (rds wds 64 sta 0))) 1) + (rds wds 64 sta 1))) 2) + (rds wds 64 sta 2))) 3 (((upd (upd (upd sta 0 ((sta 0) + (rds wds 64 sta 0))) 1 (((upd sta 0 ((sta 0) + (rds wds 64 sta 0))) 1) + (rds wds 64 sta 1))) 2 (((upd (upd sta 0 ((sta 0) + (rds wds 64 sta 0))) 1 (((upd sta 0 ((sta 0) + (rds wds 64 sta 0))) 1) + (rds wds 64 sta 1))) 2) + (rds wds 64 sta 2))) 3) + (rds wds 64 sta 3))) 4) + (rds wds 64 sta 4))) 5 (((upd (upd (upd (upd (upd sta 0 ((sta 0) + (rds wds 64 sta 0))) 1 (((upd sta 0 ((sta 0) + (rds wds 64 sta 0))) 1) + (rds wds 64 sta 1))) 2 (((upd (upd sta 0 ((sta 0) + (rds wds 64 sta 0))) 1 (((upd sta 0 ((sta 0) + (rds wds 64 sta 0))) 1) + (rds wds 64 sta 1))) 2) + (rds wds 64 sta 2))) 3 (((upd (upd (upd sta 0 ((sta 0) + (rds wds 64 sta 0))) 1 (((upd sta 0 ((sta 0) + (rds wds 64 sta 0))) 1) + (rds wds 64 sta 1))) 2 (((upd (upd sta 0 ((sta 0) + (rds wds 64 sta 0))) 1 (((upd sta 0 ((sta 0) + (rds wds 64 sta 0))) 1) + (rds wds 64 sta 1))) 2) + (rds wds 64 sta 2))) 3) + (rds wds 64 sta 3))) 4 (((upd (upd (upd (upd sta 0 ((sta 0) + (rds wds 64 sta 0))) 1 (((upd sta 0 ((sta 0) + (rds wds 64 sta 0))) 1) + (rds wds 64 sta 1))) 2 (((upd (upd sta 0 ((sta 0) + (rds wds 64 sta 0))) 1 (((upd sta 0 ((sta 0) + (rds wds 64 sta 0))) 1) + (rds wds 64 sta 1))) 2) + (rds wds 64 sta 2))) 3 (((upd (upd (upd sta 0 ((sta 0) + (rds wds 64 sta 0))) 1 (((upd sta 0 ((sta 0) + (rds wds 64 sta 0))) 1) + (rds wds 64 sta 1))) 2 (((upd (upd sta 0 ((sta 0) + (rds wds 64 sta 0))) 1 (((upd sta 0 ((sta 0) + (rds wds 64 sta 0))) 1) + (rds wds 64 sta 1))) 2) + (rds wds 64 sta 2))) 3) + (rds wds 64 sta 3))) 4) + (rds wds 64 sta 4))) 5) + (rds wds 64 sta 5))) 6) + (rds wds 64 sta 6))) 7 (((upd (upd (upd (upd (upd (upd (upd sta 0 ((sta 0) + (rds wds 64 sta 0))) 1 (((upd sta 0 ((sta 0) + (rds wds 64 sta 0))) 1) + (rds wds 64 sta 1))) 2 (((upd (upd sta 0 ((sta 0) + (rds wds 64 sta 0))) 1 (((upd sta 0 ((sta 0) + (rds wds 64 sta 0))) 1) + (rds wds 64 sta 1))) 2) + (rds wds 64 sta 2))) 3 (((upd (upd (upd sta 0 ((sta 0) + (rds wds 64 sta 0))) 1 (((upd sta 0 ((sta 0) + (rds wds 64 sta 0))) 1) + (rds wds 64 sta 1))) 2 (((upd (upd sta 0 ((sta 0) + (rds wds 64 sta 0))) 1 (((upd sta 0 ((sta 0) + (rds wds 64 sta 0))) 1) + (rds wds 64 sta 1))) 2) + (rds wds 64 sta 2))) 3) + (rds wds 64 sta 3))) 4 (((upd (upd (upd (upd sta 0 ((sta 0) + (rds wds 64 sta 0))) 1 (((upd sta 0 ((sta 0) + (rds wds 64 sta 0))) 1) + (rds wds 64 sta 1))) 2 (((upd (upd sta 0 ((sta 0) + (rds wds 64 sta 0))) 1 (((upd sta 0 ((sta 0) + (rds wds 64 sta 0))) 1) + (rds wds 64 sta 1))) 2) + (rds wds 64 sta 2))) 3 (((upd (upd (upd sta 0 ((sta 0) + (rds wds 64 sta 0))) 1 (((upd sta 0 ((sta 0) + (rds wds 64 sta 0))) 1) + (rds wds 64 sta 1))) 2 (((upd (upd sta 0 ((sta 0) + (rds wds 64 sta 0))) 1 (((upd sta 0 ((sta 0) + (rds wds 64 sta 0))) 1) + (rds wds 64 sta 1))) 2) + (rds wds 64 sta 2))) 3) + (rds wds 64 sta 3))) 4) + (rds wds 64 sta 4))) 5 (((upd (upd (upd (upd (upd sta 0 ((sta 0) + (rds wds 64 sta 0))) 1 (((upd sta 0 ((sta 0) + (rds wds 64 sta 0))) 1) + (rds wds 64 sta 1))) 2 (((upd (upd sta 0 ((sta 0) + (rds wds 64 sta 0))) 1 (((upd sta 0 ((sta 0) + (rds wds 64 sta 0))) 1) + (rds wds 64 sta 1))) 2) + (rds wds 64 sta 2))) 3 (((upd (upd (upd sta 0 ((sta 0) + (rds wds 64 sta 0))) 1 (((upd sta 0 ((sta 0) + (rds wds 64 sta 0))) 1) + (rds wds 64 sta 1))) 2 (((upd (upd sta 0 ((sta 0) + (rds wds 64 sta 0))) 1 (((upd sta 0 ((sta 0) + (rds wds 64 sta 0))) 1) + (rds wds 64 sta 1))) 2) + (rds wds 64 sta 2))) 3) + (rds wds 64 sta 3))) 4 (((upd (upd (upd (upd sta 0 ((sta 0) + (rds wds 64 sta 0))) 1 (((upd sta 0 ((sta 0) + (rds wds 64 sta 0))) 1) + (rds wds 64 sta 1))) 2 (((upd (upd sta 0 ((sta 0) + (rds wds 64 sta 0))) 1 (((upd sta 0 ((sta 0) + (rds wds 64 sta 0))) 1) + (rds wds 64 sta 1))) 2) + (rds wds 64 sta 2))) 3 (((upd (upd (upd sta 0 ((sta 0) + (rds wds 64 sta 0))) 1 (((upd sta 0 ((sta 0) + (rds wds 64 sta 0))) 1) + (rds wds 64 sta 1))) 2 (((upd (upd sta 0 ((sta 0) + (rds wds 64 sta 0))) 1 (((upd sta 0 ((sta 0) + (rds wds 64 sta 0))) 1) + (rds wds 64 sta 1))) 2) + (rds wds 64 sta 2))) 3) + (rds wds 64 sta 3))) 4) + (rds wds 64 sta 4))) 5) + (rds wds 64 sta 5))) 6 (((upd (upd (upd (upd (upd (upd sta 0 ((sta 0) + (rds wds 64 sta 0))) 1 (((upd sta 0 ((sta 0) + (rds wds 64 sta 0))) 1) + (rds wds 64 sta 1))) 2 (((upd (upd sta 0 ((sta 0) + (rds wds 64 sta 0))) 1 (((upd sta 0 ((sta 0) + (rds wds 64 sta 0))) 1) + (rds wds 64 sta 1))) 2) + (rds wds 64 sta 2))) 3 (((upd (upd (upd sta 0 ((sta 0) + (rds wds 64 sta 0))) 1 (((upd sta 0 ((sta 0) + (rds wds 64 sta 0))) 1) + (rds wds 64 sta 1))) 2 (((upd (upd sta 0 ((sta 0) + (rds wds 64 sta 0))) 1 (((upd sta 0 ((sta 0) + (rds wds 64 sta 0))) 1) + (rds wds 64 sta 1))) 2) + (rds wds 64 sta 2))) 3) + (rds wds 64 sta 3))) 4 (((upd (upd (upd (upd sta 0 ((sta 0) + (rds wds 64 sta 0))) 1 (((upd sta 0 ((sta 0) + (rds wds 64 sta 0))) 1) + (rds wds 64 sta 1))) 2 (((upd (upd sta 0 ((sta 0) + (rds wds 64 sta 0))) 1 (((upd sta 0 ((sta 0) + (rds wds 64 sta 0))) 1) + (rds wds 64 sta 1))) 2) + (rds wds 64 sta 2))) 3 (((upd (upd (upd sta 0 ((sta 0) + (rds wds 64 sta 0))) 1 (((upd sta 0 ((sta 0) + (rds wds 64 sta 0))) 1) + (rds wds 64 sta 1))) 2 (((upd (upd sta 0 ((sta 0) + (rds wds 64 sta 0))) 1 (((upd sta 0 ((sta 0) + (rds wds 64 sta 0))) 1) + (rds wds 64 sta 1))) 2) + (rds wds 64 sta 2))) 3) + (rds wds 64 sta 3))) 4) + (rds wds 64 sta 4))) 5 (((upd (upd (upd (upd (upd sta 0 ((sta 0) + (rds wds 64 sta 0))) 1 (((upd sta 0 ((sta 0) + (rds wds 64 sta 0))) 1) + (rds wds 64 sta 1))) 2 (((upd (upd sta 0 ((sta 0) + (rds wds 64 sta 0))) 1 (((upd sta 0 ((sta 0) + (rds wds 64 sta 0))) 1) + (rds wds 64 sta 1))) 2) + (rds wds 64 sta 2))) 3 (((upd (upd (upd sta 0 ((sta 0) + (rds wds 64 sta 0))) 1 (((upd sta 0 ((sta 0) + (rds wds 64 sta 0))) 1) + (rds wds 64 sta 1))) 2 (((upd (upd sta 0 ((sta 0) + (rds wds 64 sta 0))) 1 (((upd sta 0 ((sta 0) + (rds wds 64 sta 0))) 1) + (rds wds 64 sta 1))) 2) + (rds wds 64 sta 2))) 3) + (rds wds 64 sta 3))) 4 (((upd (upd (upd (upd sta 0 ((sta 0) + (rds wds 64 sta 0))) 1 (((upd sta 0 ((sta 0) + (rds wds 64 sta 0))) 1) + (rds wds 64 sta 1))) 2 (((upd (upd sta 0 ((sta 0) + (rds wds 64 sta 0))) 1 (((upd sta 0 ((sta 0) + (rds wds 64 sta 0))) 1) + (rds wds 64 sta 1))) 2) + (rds wds 64 sta 2))) 3 (((upd (upd (upd sta 0 ((sta 0) + (rds wds 64 sta 0))) 1 (((upd sta 0 ((sta 0) + (rds wds 64 sta 0))) 1) + (rds wds 64 sta 1))) 2 (((upd (upd sta 0 ((sta 0) + (rds wds 64 sta 0))) 1 (((upd sta 0 ((sta 0) + (rds wds 64 sta 0))) 1) + (rds wds 64 sta 1))) 2) + (rds wds 64 sta 2))) 3) + (rds wds 64 sta 3))) 4) + (rds wds 64 sta 4))) 5) + (rds wds 64 sta 5))) 6) + (rds wds 64 sta 6))) 7) + (rds wds 64 sta 7))))) C wd_eq 7 rfl (by decide) (by decide) dX3_mixWords_287 rfl wd_ss ?_
      refine (r_vret C rfl (by decide) (by decide) dX3_mixWords_288 ⟨rfl, ⟨_, wd_eq, fun j hj => ?_⟩, Fr.set (by decide) (by decide)⟩)
      have q : j = 0 ∨ j = 1 ∨ j = 2 ∨ j = 3 ∨ j = 4 ∨ j = 5 ∨ j = 6 ∨ j = 7 := by omega
      rcases q with rfl | rfl | rfl | rfl | rfl | rfl | rfl | rfl <;> rfl
    | succ r ih =>
      intro t   hi 
      refine r_iload C 8 dX3_mixWords_66 rfl rfl ?_
      refine r_bipush C (nI 64) dX3_mixWords_68 (by decide) rfl ?_
      refine r_icmp_ge_f (tgt := 201) C dX3_mixWords_70 (by decide) rfl (fun z => absurd ((nI_leI (a := 64) (b := t) (by omega) (by omega)).mp z) (by omega)) ?_
      refine r_iload C 7 dX3_mixWords_73 rfl rfl ?_
      refine r_iload C 4 dX3_mixWords_75 rfl rfl ?_
      refine r_bipush C (nI 6) dX3_mixWords_77 (by decide) rfl ?_
      refine r_callS (As := [.int (rds wds t sta 4), .int (nI 6)]) (st := [.int (rds wds t sta 7)]) C (c_turn) q381 q379 q380 q7 ⟨by decide, by decide⟩ (show (parseMethodDescriptor yX3_turn.desc).map (fun d => d.parameters.length) = some 2 by decide +kernel) (by decide) (by decide) (by decide) (by decide) (Nat.le_of_ble_eq_true rfl) rfl dX3_mixWords_79 rfl ?_
      rintro v9 w2 ⟨rfl, rfl⟩
      show V g k 12 w 0 0 (kQ g k (fun v w' => v = none ∧ (∃ sta' : Nat → Int32, w' 113 = some (as9, aI g 8 sta') ∧ ∀ j, j < 8 → sta' j = sta j + rds wds 64 sta j) ∧ Fr w w' 113 114) 0 0) 82 [(1, .int (rds wds t sta 0)), (2, .int (rds wds t sta 1)), (3, .int (rds wds t sta 2)), (4, .int (rds wds t sta 3)), (5, .int (rds wds t sta 4)), (6, .int (rds wds t sta 5)), (7, .int (rds wds t sta 6)), (8, .int (rds wds t sta 7)), (9, .int (nI t)), (0, .ref a0)] [.int (rot9 (rds wds t sta 4) (nI 6)), .int (rds wds t sta 7)]
      refine r_iload C 4 dX3_mixWords_82 rfl rfl ?_
      refine r_bipush C (nI 11) dX3_mixWords_84 (by decide) rfl ?_
      refine r_callS (As := [.int (rds wds t sta 4), .int (nI 11)]) (st := [.int (rot9 (rds wds t sta 4) (nI 6)), .int (rds wds t sta 7)]) C (c_turn) q381 q379 q380 q7 ⟨by decide, by decide⟩ (show (parseMethodDescriptor yX3_turn.desc).map (fun d => d.parameters.length) = some 2 by decide +kernel) (by decide) (by decide) (by decide) (by decide) (Nat.le_of_ble_eq_true rfl) rfl dX3_mixWords_86 rfl ?_
      rintro v9 w3 ⟨rfl, rfl⟩
      show V g k 12 w 0 0 (kQ g k (fun v w' => v = none ∧ (∃ sta' : Nat → Int32, w' 113 = some (as9, aI g 8 sta') ∧ ∀ j, j < 8 → sta' j = sta j + rds wds 64 sta j) ∧ Fr w w' 113 114) 0 0) 89 [(1, .int (rds wds t sta 0)), (2, .int (rds wds t sta 1)), (3, .int (rds wds t sta 2)), (4, .int (rds wds t sta 3)), (5, .int (rds wds t sta 4)), (6, .int (rds wds t sta 5)), (7, .int (rds wds t sta 6)), (8, .int (rds wds t sta 7)), (9, .int (nI t)), (0, .ref a0)] [.int (rot9 (rds wds t sta 4) (nI 11)), .int (rot9 (rds wds t sta 4) (nI 6)), .int (rds wds t sta 7)]
      refine r_ixor C dX3_mixWords_89 rfl ?_
      refine r_iload C 4 dX3_mixWords_90 rfl rfl ?_
      refine r_bipush C (nI 25) dX3_mixWords_92 (by decide) rfl ?_
      refine r_callS (As := [.int (rds wds t sta 4), .int (nI 25)]) (st := [.int ((rot9 (rds wds t sta 4) (nI 6)) ^^^ (rot9 (rds wds t sta 4) (nI 11))), .int (rds wds t sta 7)]) C (c_turn) q381 q379 q380 q7 ⟨by decide, by decide⟩ (show (parseMethodDescriptor yX3_turn.desc).map (fun d => d.parameters.length) = some 2 by decide +kernel) (by decide) (by decide) (by decide) (by decide) (Nat.le_of_ble_eq_true rfl) rfl dX3_mixWords_94 rfl ?_
      rintro v9 w4 ⟨rfl, rfl⟩
      show V g k 12 w 0 0 (kQ g k (fun v w' => v = none ∧ (∃ sta' : Nat → Int32, w' 113 = some (as9, aI g 8 sta') ∧ ∀ j, j < 8 → sta' j = sta j + rds wds 64 sta j) ∧ Fr w w' 113 114) 0 0) 97 [(1, .int (rds wds t sta 0)), (2, .int (rds wds t sta 1)), (3, .int (rds wds t sta 2)), (4, .int (rds wds t sta 3)), (5, .int (rds wds t sta 4)), (6, .int (rds wds t sta 5)), (7, .int (rds wds t sta 6)), (8, .int (rds wds t sta 7)), (9, .int (nI t)), (0, .ref a0)] [.int (rot9 (rds wds t sta 4) (nI 25)), .int ((rot9 (rds wds t sta 4) (nI 6)) ^^^ (rot9 (rds wds t sta 4) (nI 11))), .int (rds wds t sta 7)]
      refine r_ixor C dX3_mixWords_97 rfl ?_
      refine r_iadd C dX3_mixWords_98 rfl ?_
      refine r_iload C 4 dX3_mixWords_99 rfl rfl ?_
      refine r_iload C 5 dX3_mixWords_101 rfl rfl ?_
      refine r_iand C dX3_mixWords_103 rfl ?_
      refine r_iload C 4 dX3_mixWords_104 rfl rfl ?_
      refine r_iconst C ((-1)) dX3_mixWords_106 (by decide) rfl ?_
      refine r_ixor C dX3_mixWords_107 rfl ?_
      refine r_iload C 6 dX3_mixWords_108 rfl rfl ?_
      refine r_iand C dX3_mixWords_110 rfl ?_
      refine r_ixor C dX3_mixWords_111 rfl ?_
      refine r_iadd C dX3_mixWords_112 rfl ?_
      refine r_getsN C (ks_C C) q389 rfl dX3_mixWords_113 rfl ?_
      refine r_iload C 8 dX3_mixWords_116 rfl rfl ?_
      refine r_siald C (ks_Ct C) t rfl (by omega) (by decide) dX3_mixWords_118 rfl ?_
      refine r_iadd C dX3_mixWords_119 rfl ?_
      refine r_aload_n C 9 dX3_mixWords_120 rfl rfl ?_
      refine r_get (t := 110) C koX3 h0 1 (by decide) q88 rfl rfl dX3_mixWords_121 rfl ?_
      refine r_iload C 8 dX3_mixWords_124 rfl rfl ?_
      refine r_iald (t := 112) C h2 t rfl (by omega) (by decide) dX3_mixWords_126 rfl ?_
      refine r_iadd C dX3_mixWords_127 rfl ?_
      refine r_ti (show (((((rds wds t sta 7) + (((rot9 (rds wds t sta 4) (nI 6)) ^^^ (rot9 (rds wds t sta 4) (nI 11))) ^^^ (rot9 (rds wds t sta 4) (nI 25)))) + (((rds wds t sta 4) &&& (rds wds t sta 5)) ^^^ (((rds wds t sta 4) ^^^ (-1)) &&& (rds wds t sta 6)))) + (kCu t)) + (wds t) : Int32) = u9 (kCu t) (wds t) (rds wds t sta) from rfl) ?_
      refine r_istore (lv' := [(10, .int (u9 (kCu t) (wds t) (rds wds t sta))), (1, .int (rds wds t sta 0)), (2, .int (rds wds t sta 1)), (3, .int (rds wds t sta 2)), (4, .int (rds wds t sta 3)), (5, .int (rds wds t sta 4)), (6, .int (rds wds t sta 5)), (7, .int (rds wds t sta 6)), (8, .int (rds wds t sta 7)), (9, .int (nI t)), (0, .ref a0)]) C dX3_mixWords_128 (by decide) rfl rfl ?_
      refine r_iload_n C 1 dX3_mixWords_130 rfl rfl ?_
      refine r_iconst C (nI 2) dX3_mixWords_131 (by decide) rfl ?_
      refine r_callS (As := [.int (rds wds t sta 0), .int (nI 2)]) (st := []) C (c_turn) q381 q379 q380 q7 ⟨by decide, by decide⟩ (show (parseMethodDescriptor yX3_turn.desc).map (fun d => d.parameters.length) = some 2 by decide +kernel) (by decide) (by decide) (by decide) (by decide) (Nat.le_of_ble_eq_true rfl) rfl dX3_mixWords_132 rfl ?_
      rintro v9 w5 ⟨rfl, rfl⟩
      show V g k 12 w 0 0 (kQ g k (fun v w' => v = none ∧ (∃ sta' : Nat → Int32, w' 113 = some (as9, aI g 8 sta') ∧ ∀ j, j < 8 → sta' j = sta j + rds wds 64 sta j) ∧ Fr w w' 113 114) 0 0) 135 [(10, .int (u9 (kCu t) (wds t) (rds wds t sta))), (1, .int (rds wds t sta 0)), (2, .int (rds wds t sta 1)), (3, .int (rds wds t sta 2)), (4, .int (rds wds t sta 3)), (5, .int (rds wds t sta 4)), (6, .int (rds wds t sta 5)), (7, .int (rds wds t sta 6)), (8, .int (rds wds t sta 7)), (9, .int (nI t)), (0, .ref a0)] [.int (rot9 (rds wds t sta 0) (nI 2))]
      refine r_iload_n C 1 dX3_mixWords_135 rfl rfl ?_
      refine r_bipush C (nI 13) dX3_mixWords_136 (by decide) rfl ?_
      refine r_callS (As := [.int (rds wds t sta 0), .int (nI 13)]) (st := [.int (rot9 (rds wds t sta 0) (nI 2))]) C (c_turn) q381 q379 q380 q7 ⟨by decide, by decide⟩ (show (parseMethodDescriptor yX3_turn.desc).map (fun d => d.parameters.length) = some 2 by decide +kernel) (by decide) (by decide) (by decide) (by decide) (Nat.le_of_ble_eq_true rfl) rfl dX3_mixWords_138 rfl ?_
      rintro v9 w6 ⟨rfl, rfl⟩
      show V g k 12 w 0 0 (kQ g k (fun v w' => v = none ∧ (∃ sta' : Nat → Int32, w' 113 = some (as9, aI g 8 sta') ∧ ∀ j, j < 8 → sta' j = sta j + rds wds 64 sta j) ∧ Fr w w' 113 114) 0 0) 141 [(10, .int (u9 (kCu t) (wds t) (rds wds t sta))), (1, .int (rds wds t sta 0)), (2, .int (rds wds t sta 1)), (3, .int (rds wds t sta 2)), (4, .int (rds wds t sta 3)), (5, .int (rds wds t sta 4)), (6, .int (rds wds t sta 5)), (7, .int (rds wds t sta 6)), (8, .int (rds wds t sta 7)), (9, .int (nI t)), (0, .ref a0)] [.int (rot9 (rds wds t sta 0) (nI 13)), .int (rot9 (rds wds t sta 0) (nI 2))]
      refine r_ixor C dX3_mixWords_141 rfl ?_
      refine r_iload_n C 1 dX3_mixWords_142 rfl rfl ?_
      refine r_bipush C (nI 22) dX3_mixWords_143 (by decide) rfl ?_
      refine r_callS (As := [.int (rds wds t sta 0), .int (nI 22)]) (st := [.int ((rot9 (rds wds t sta 0) (nI 2)) ^^^ (rot9 (rds wds t sta 0) (nI 13)))]) C (c_turn) q381 q379 q380 q7 ⟨by decide, by decide⟩ (show (parseMethodDescriptor yX3_turn.desc).map (fun d => d.parameters.length) = some 2 by decide +kernel) (by decide) (by decide) (by decide) (by decide) (Nat.le_of_ble_eq_true rfl) rfl dX3_mixWords_145 rfl ?_
      rintro v9 w7 ⟨rfl, rfl⟩
      show V g k 12 w 0 0 (kQ g k (fun v w' => v = none ∧ (∃ sta' : Nat → Int32, w' 113 = some (as9, aI g 8 sta') ∧ ∀ j, j < 8 → sta' j = sta j + rds wds 64 sta j) ∧ Fr w w' 113 114) 0 0) 148 [(10, .int (u9 (kCu t) (wds t) (rds wds t sta))), (1, .int (rds wds t sta 0)), (2, .int (rds wds t sta 1)), (3, .int (rds wds t sta 2)), (4, .int (rds wds t sta 3)), (5, .int (rds wds t sta 4)), (6, .int (rds wds t sta 5)), (7, .int (rds wds t sta 6)), (8, .int (rds wds t sta 7)), (9, .int (nI t)), (0, .ref a0)] [.int (rot9 (rds wds t sta 0) (nI 22)), .int ((rot9 (rds wds t sta 0) (nI 2)) ^^^ (rot9 (rds wds t sta 0) (nI 13)))]
      refine r_ixor C dX3_mixWords_148 rfl ?_
      refine r_iload_n C 1 dX3_mixWords_149 rfl rfl ?_
      refine r_iload_n C 2 dX3_mixWords_150 rfl rfl ?_
      refine r_iand C dX3_mixWords_151 rfl ?_
      refine r_iload_n C 1 dX3_mixWords_152 rfl rfl ?_
      refine r_iload_n C 3 dX3_mixWords_153 rfl rfl ?_
      refine r_iand C dX3_mixWords_154 rfl ?_
      refine r_ixor C dX3_mixWords_155 rfl ?_
      refine r_iload_n C 2 dX3_mixWords_156 rfl rfl ?_
      refine r_iload_n C 3 dX3_mixWords_157 rfl rfl ?_
      refine r_iand C dX3_mixWords_158 rfl ?_
      refine r_ixor C dX3_mixWords_159 rfl ?_
      refine r_iadd C dX3_mixWords_160 rfl ?_
      refine r_ti (show ((((rot9 (rds wds t sta 0) (nI 2)) ^^^ (rot9 (rds wds t sta 0) (nI 13))) ^^^ (rot9 (rds wds t sta 0) (nI 22))) + ((((rds wds t sta 0) &&& (rds wds t sta 1)) ^^^ ((rds wds t sta 0) &&& (rds wds t sta 2))) ^^^ ((rds wds t sta 1) &&& (rds wds t sta 2))) : Int32) = v9 (rds wds t sta) from rfl) ?_
      refine r_istore (lv' := [(11, .int (v9 (rds wds t sta))), (10, .int (u9 (kCu t) (wds t) (rds wds t sta))), (1, .int (rds wds t sta 0)), (2, .int (rds wds t sta 1)), (3, .int (rds wds t sta 2)), (4, .int (rds wds t sta 3)), (5, .int (rds wds t sta 4)), (6, .int (rds wds t sta 5)), (7, .int (rds wds t sta 6)), (8, .int (rds wds t sta 7)), (9, .int (nI t)), (0, .ref a0)]) C dX3_mixWords_161 (by decide) rfl rfl ?_
      refine r_iload C 8 dX3_mixWords_163 rfl rfl ?_
      refine r_istore (lv' := [(8, .int (rds wds t sta 6)), (11, .int (v9 (rds wds t sta))), (10, .int (u9 (kCu t) (wds t) (rds wds t sta))), (1, .int (rds wds t sta 0)), (2, .int (rds wds t sta 1)), (3, .int (rds wds t sta 2)), (4, .int (rds wds t sta 3)), (5, .int (rds wds t sta 4)), (6, .int (rds wds t sta 5)), (7, .int (rds wds t sta 6)), (9, .int (nI t)), (0, .ref a0)]) C dX3_mixWords_165 (by decide) rfl rfl ?_
      refine r_iload C 8 dX3_mixWords_167 rfl rfl ?_
      refine r_istore (lv' := [(7, .int (rds wds t sta 5)), (8, .int (rds wds t sta 6)), (11, .int (v9 (rds wds t sta))), (10, .int (u9 (kCu t) (wds t) (rds wds t sta))), (1, .int (rds wds t sta 0)), (2, .int (rds wds t sta 1)), (3, .int (rds wds t sta 2)), (4, .int (rds wds t sta 3)), (5, .int (rds wds t sta 4)), (6, .int (rds wds t sta 5)), (9, .int (nI t)), (0, .ref a0)]) C dX3_mixWords_169 (by decide) rfl rfl ?_
      refine r_iload C 8 dX3_mixWords_171 rfl rfl ?_
      refine r_istore (lv' := [(6, .int (rds wds t sta 4)), (7, .int (rds wds t sta 5)), (8, .int (rds wds t sta 6)), (11, .int (v9 (rds wds t sta))), (10, .int (u9 (kCu t) (wds t) (rds wds t sta))), (1, .int (rds wds t sta 0)), (2, .int (rds wds t sta 1)), (3, .int (rds wds t sta 2)), (4, .int (rds wds t sta 3)), (5, .int (rds wds t sta 4)), (9, .int (nI t)), (0, .ref a0)]) C dX3_mixWords_173 (by decide) rfl rfl ?_
      refine r_iload C 8 dX3_mixWords_175 rfl rfl ?_
      refine r_iload C 4 dX3_mixWords_177 rfl rfl ?_
      refine r_iadd C dX3_mixWords_179 rfl ?_
      refine r_istore (lv' := [(5, .int ((rds wds t sta 3) + (u9 (kCu t) (wds t) (rds wds t sta)))), (6, .int (rds wds t sta 4)), (7, .int (rds wds t sta 5)), (8, .int (rds wds t sta 6)), (11, .int (v9 (rds wds t sta))), (10, .int (u9 (kCu t) (wds t) (rds wds t sta))), (1, .int (rds wds t sta 0)), (2, .int (rds wds t sta 1)), (3, .int (rds wds t sta 2)), (4, .int (rds wds t sta 3)), (9, .int (nI t)), (0, .ref a0)]) C dX3_mixWords_180 (by decide) rfl rfl ?_
      refine r_iload_n C 8 dX3_mixWords_182 rfl rfl ?_
      refine r_istore (lv' := [(4, .int (rds wds t sta 2)), (5, .int ((rds wds t sta 3) + (u9 (kCu t) (wds t) (rds wds t sta)))), (6, .int (rds wds t sta 4)), (7, .int (rds wds t sta 5)), (8, .int (rds wds t sta 6)), (11, .int (v9 (rds wds t sta))), (10, .int (u9 (kCu t) (wds t) (rds wds t sta))), (1, .int (rds wds t sta 0)), (2, .int (rds wds t sta 1)), (3, .int (rds wds t sta 2)), (9, .int (nI t)), (0, .ref a0)]) C dX3_mixWords_183 (by decide) rfl rfl ?_
      refine r_iload_n C 8 dX3_mixWords_185 rfl rfl ?_
      refine r_istore_n (lv' := [(3, .int (rds wds t sta 1)), (4, .int (rds wds t sta 2)), (5, .int ((rds wds t sta 3) + (u9 (kCu t) (wds t) (rds wds t sta)))), (6, .int (rds wds t sta 4)), (7, .int (rds wds t sta 5)), (8, .int (rds wds t sta 6)), (11, .int (v9 (rds wds t sta))), (10, .int (u9 (kCu t) (wds t) (rds wds t sta))), (1, .int (rds wds t sta 0)), (2, .int (rds wds t sta 1)), (9, .int (nI t)), (0, .ref a0)]) C dX3_mixWords_186 (by decide) rfl rfl ?_
      refine r_iload_n C 8 dX3_mixWords_187 rfl rfl ?_
      refine r_istore_n (lv' := [(2, .int (rds wds t sta 0)), (3, .int (rds wds t sta 1)), (4, .int (rds wds t sta 2)), (5, .int ((rds wds t sta 3) + (u9 (kCu t) (wds t) (rds wds t sta)))), (6, .int (rds wds t sta 4)), (7, .int (rds wds t sta 5)), (8, .int (rds wds t sta 6)), (11, .int (v9 (rds wds t sta))), (10, .int (u9 (kCu t) (wds t) (rds wds t sta))), (1, .int (rds wds t sta 0)), (9, .int (nI t)), (0, .ref a0)]) C dX3_mixWords_188 (by decide) rfl rfl ?_
      refine r_iload C 8 dX3_mixWords_189 rfl rfl ?_
      refine r_iload C 7 dX3_mixWords_191 rfl rfl ?_
      refine r_iadd C dX3_mixWords_193 rfl ?_
      refine r_istore_n (lv' := [(1, .int ((u9 (kCu t) (wds t) (rds wds t sta)) + (v9 (rds wds t sta)))), (2, .int (rds wds t sta 0)), (3, .int (rds wds t sta 1)), (4, .int (rds wds t sta 2)), (5, .int ((rds wds t sta 3) + (u9 (kCu t) (wds t) (rds wds t sta)))), (6, .int (rds wds t sta 4)), (7, .int (rds wds t sta 5)), (8, .int (rds wds t sta 6)), (11, .int (v9 (rds wds t sta))), (10, .int (u9 (kCu t) (wds t) (rds wds t sta))), (9, .int (nI t)), (0, .ref a0)]) C dX3_mixWords_194 (by decide) rfl rfl ?_
      refine r_iinc (v := nI (t + 1)) (lv' := [(9, .int (nI (t + 1))), (1, .int ((u9 (kCu t) (wds t) (rds wds t sta)) + (v9 (rds wds t sta)))), (2, .int (rds wds t sta 0)), (3, .int (rds wds t sta 1)), (4, .int (rds wds t sta 2)), (5, .int ((rds wds t sta 3) + (u9 (kCu t) (wds t) (rds wds t sta)))), (6, .int (rds wds t sta 4)), (7, .int (rds wds t sta 5)), (8, .int (rds wds t sta 6)), (11, .int (v9 (rds wds t sta))), (10, .int (u9 (kCu t) (wds t) (rds wds t sta))), (0, .ref a0)]) C 10 dX3_mixWords_195 rfl (nI_1 t) (by decide) rfl rfl ?_
      refine r_goto (tgt := 66) C dX3_mixWords_198 (by decide) ?_
      refine r_sub (lv' := [(1, .int ((u9 (kCu t) (wds t) (rds wds t sta)) + (v9 (rds wds t sta)))), (2, .int (rds wds t sta 0)), (3, .int (rds wds t sta 1)), (4, .int (rds wds t sta 2)), (5, .int ((rds wds t sta 3) + (u9 (kCu t) (wds t) (rds wds t sta)))), (6, .int (rds wds t sta 4)), (7, .int (rds wds t sta 5)), (8, .int (rds wds t sta 6)), (9, .int (nI (t + 1))), (0, .ref a0)]) [1, 2, 3, 4, 5, 6, 7, 8, 0, 11] rfl ?_
      exact ih (t + 1) (by omega)
  exact loop 64 0 (by omega)

theorem sc9_st0 {M wds : Nat → Int32} {b t : Nat} (h : ∀ j, j < t → wds j = sc9 M b j) (ht : t < 16) : ∀ j, j < t + 1 → upd wds t (rdW M (b + 4 * t)) j = sc9 M b j := by
  intro j hj
  by_cases e : j = t
  · subst e; rw [pk_us, sc9_lo ht]
  · rw [pk_un e]; exact h j (by omega)
theorem sc9_st1 {M wds : Nat → Int32} {b t : Nat} (h : ∀ j, j < t → wds j = sc9 M b j) (ht : 16 ≤ t) : ∀ j, j < t + 1 → upd wds t (((lat9 (wds (t - 2)) + wds (t - 7)) + ear9 (wds (t - 15))) + wds (t - 16)) j = sc9 M b j := by
  intro j hj
  by_cases e : j = t
  · subst e; rw [pk_us, sc9_hi ht, h _ (by omega), h _ (by omega), h _ (by omega), h _ (by omega)]
  · rw [pk_un e]; exact h j (by omega)
set_option maxHeartbeats 4000000 in
set_option maxRecDepth 20000 in
theorem c_readWords {l : Launch} {g : cx_G} {w : wd_T} {a0 am aw as9 : Nat} {n : Int32} {msg wds : Nat → Int32} {b : Nat} (h0 : w 110 = some (a0, ob 3 [.ref am, .ref aw, .ref as9, .int n])) (h1 : w 111 = some (am, aB g 128 msg)) (h2 : w 112 = some (aw, aI g 64 wds)) (hb : b ≤ 64) : Mt l g yX3_readWords cX3_readWords 5 none 2 0 0 w [.ref a0, .int (nI b)] (fun v w' => v = none ∧ (∃ wds' : Nat → Int32, w' 112 = some (aw, aI g 64 wds') ∧ ∀ j, j < 64 → wds' j = sc9 msg b j) ∧ Fr w w' 112 113) := by
  refine mt_of RX3 "readWords" rfl rfl (by decide) (Nat.le_of_ble_eq_true rfl) [(0, .ref a0), (1, .int (nI b))] rfl ?_
  intro k hkl C hin
  subst hkl
  have loop2 : ∀ (r t : Nat) (wds1 : Nat → Int32) (w1 : wd_T), t + r = 64 → 16 ≤ t → (w1 112 = some (aw, aI g 64 wds1)) → (∀ j, j < t → wds1 j = sc9 msg b j) → (Fr w w1 112 113) → V g k 5 w1 0 0 (kQ g k (fun v w' => v = none ∧ (∃ wds' : Nat → Int32, w' 112 = some (aw, aI g 64 wds') ∧ ∀ j, j < 64 → wds' j = sc9 msg b j) ∧ Fr w w' 112 113) 0 0) 64 [(2, .int (nI t)), (0, .ref a0), (1, .int (nI b))] [] := by
    intro r
    induction r with
    | zero =>
      intro t wds1 w1 hi h16 g2 gs gf
      have g0 : w1 110 = _ := (gf 110 (by decide)).trans h0
      have g1 : w1 111 = _ := (gf 111 (by decide)).trans h1
      refine r_iload_n C 0 dX3_readWords_64 rfl rfl ?_
      refine r_bipush C (nI 64) dX3_readWords_65 (by decide) rfl ?_
      refine r_icmp_ge_t (tgt := 126) C dX3_readWords_67 (by decide) ((nI_leI (a := 64) (b := t) (by omega) (by omega)).mpr (by omega)) ?_
      obtain rfl : t = 64 := by omega
      exact r_vret C rfl (by decide) (by decide) dX3_readWords_126 ⟨rfl, ⟨_, g2, gs⟩, gf⟩
    | succ r ih =>
      intro t wds1 w1 hi h16 g2 gs gf
      have g0 : w1 110 = _ := (gf 110 (by decide)).trans h0
      have g1 : w1 111 = _ := (gf 111 (by decide)).trans h1
      refine r_iload_n C 0 dX3_readWords_64 rfl rfl ?_
      refine r_bipush C (nI 64) dX3_readWords_65 (by decide) rfl ?_
      refine r_icmp_ge_f (tgt := 126) C dX3_readWords_67 (by decide) rfl (fun z => absurd ((nI_leI (a := 64) (b := t) (by omega) (by omega)).mp z) (by omega)) ?_
      refine r_aload_n C 1 dX3_readWords_70 rfl rfl ?_
      refine r_get (t := 110) C koX3 g0 1 (by decide) q88 rfl rfl dX3_readWords_71 rfl ?_
      refine r_iload_n C 0 dX3_readWords_74 rfl rfl ?_
      refine r_aload_n C 1 dX3_readWords_75 rfl rfl ?_
      refine r_get (t := 110) C koX3 g0 1 (by decide) q88 rfl rfl dX3_readWords_76 rfl ?_
      refine r_iload_n C 0 dX3_readWords_79 rfl rfl ?_
      refine r_iconst C (nI 2) dX3_readWords_80 (by decide) rfl ?_
      refine r_isub C dX3_readWords_81 rfl ?_
      refine r_ti (show ((nI t) - (nI 2) : Int32) = nI (t - 2) from pk_sub (by omega)) ?_
      refine r_iald (t := 112) C g2 (t - 2) rfl (by omega) (by decide) dX3_readWords_82 rfl ?_
      refine r_callS (As := [.int (wds1 (t - 2))]) (st := [.int (nI t), .ref aw]) C (c_lateWord) q378 q376 q377 q7 ⟨by decide, by decide⟩ (show (parseMethodDescriptor yX3_lateWord.desc).map (fun d => d.parameters.length) = some 1 by decide +kernel) (by decide) (by decide) (by decide) (by decide) (Nat.le_of_ble_eq_true rfl) rfl dX3_readWords_83 rfl ?_
      rintro v9 w2 ⟨rfl, rfl⟩
      show V g k 5 w1 0 0 (kQ g k (fun v w' => v = none ∧ (∃ wds' : Nat → Int32, w' 112 = some (aw, aI g 64 wds') ∧ ∀ j, j < 64 → wds' j = sc9 msg b j) ∧ Fr w w' 112 113) 0 0) 86 [(2, .int (nI t)), (0, .ref a0), (1, .int (nI b))] [.int (lat9 (wds1 (t - 2))), .int (nI t), .ref aw]
      refine r_aload_n C 1 dX3_readWords_86 rfl rfl ?_
      refine r_get (t := 110) C koX3 g0 1 (by decide) q88 rfl rfl dX3_readWords_87 rfl ?_
      refine r_iload_n C 0 dX3_readWords_90 rfl rfl ?_
      refine r_bipush C (nI 7) dX3_readWords_91 (by decide) rfl ?_
      refine r_isub C dX3_readWords_93 rfl ?_
      refine r_ti (show ((nI t) - (nI 7) : Int32) = nI (t - 7) from pk_sub (by omega)) ?_
      refine r_iald (t := 112) C g2 (t - 7) rfl (by omega) (by decide) dX3_readWords_94 rfl ?_
      refine r_iadd C dX3_readWords_95 rfl ?_
      refine r_aload_n C 1 dX3_readWords_96 rfl rfl ?_
      refine r_get (t := 110) C koX3 g0 1 (by decide) q88 rfl rfl dX3_readWords_97 rfl ?_
      refine r_iload_n C 0 dX3_readWords_100 rfl rfl ?_
      refine r_bipush C (nI 15) dX3_readWords_101 (by decide) rfl ?_
      refine r_isub C dX3_readWords_103 rfl ?_
      refine r_ti (show ((nI t) - (nI 15) : Int32) = nI (t - 15) from pk_sub (by omega)) ?_
      refine r_iald (t := 112) C g2 (t - 15) rfl (by omega) (by decide) dX3_readWords_104 rfl ?_
      refine r_callS (As := [.int (wds1 (t - 15))]) (st := [.int ((lat9 (wds1 (t - 2))) + (wds1 (t - 7))), .int (nI t), .ref aw]) C (c_earlyWord) q384 q382 q383 q7 ⟨by decide, by decide⟩ (show (parseMethodDescriptor yX3_earlyWord.desc).map (fun d => d.parameters.length) = some 1 by decide +kernel) (by decide) (by decide) (by decide) (by decide) (Nat.le_of_ble_eq_true rfl) rfl dX3_readWords_105 rfl ?_
      rintro v9 w3 ⟨rfl, rfl⟩
      show V g k 5 w1 0 0 (kQ g k (fun v w' => v = none ∧ (∃ wds' : Nat → Int32, w' 112 = some (aw, aI g 64 wds') ∧ ∀ j, j < 64 → wds' j = sc9 msg b j) ∧ Fr w w' 112 113) 0 0) 108 [(2, .int (nI t)), (0, .ref a0), (1, .int (nI b))] [.int (ear9 (wds1 (t - 15))), .int ((lat9 (wds1 (t - 2))) + (wds1 (t - 7))), .int (nI t), .ref aw]
      refine r_iadd C dX3_readWords_108 rfl ?_
      refine r_aload_n C 1 dX3_readWords_109 rfl rfl ?_
      refine r_get (t := 110) C koX3 g0 1 (by decide) q88 rfl rfl dX3_readWords_110 rfl ?_
      refine r_iload_n C 0 dX3_readWords_113 rfl rfl ?_
      refine r_bipush C (nI 16) dX3_readWords_114 (by decide) rfl ?_
      refine r_isub C dX3_readWords_116 rfl ?_
      refine r_ti (show ((nI t) - (nI 16) : Int32) = nI (t - 16) from pk_sub (by omega)) ?_
      refine r_iald (t := 112) C g2 (t - 16) rfl (by omega) (by decide) dX3_readWords_117 rfl ?_
      refine r_iadd C dX3_readWords_118 rfl ?_
      refine r_iast (t := 112) (w' := wd_set w1 112 aw (aI g 64 (upd wds1 t ((((lat9 (wds1 (t - 2))) + (wds1 (t - 7))) + (ear9 (wds1 (t - 15)))) + (wds1 (t - 16)))))) C g2 t rfl (by omega) (by decide) dX3_readWords_119 rfl rfl ?_
      refine r_iinc (v := nI (t + 1)) (lv' := [(2, .int (nI (t + 1))), (0, .ref a0), (1, .int (nI b))]) C 0 dX3_readWords_120 rfl (nI_1 t) (by decide) rfl rfl ?_
      refine r_goto (tgt := 64) C dX3_readWords_123 (by decide) ?_
      exact ih (t + 1) _ _ (by omega) (by omega) wd_eq (sc9_st1 gs h16) (gf.trans (Fr.set (by decide) (by decide)))
  refine r_iconst C (nI 0) dX3_readWords_0 (by decide) rfl ?_
  refine r_istore_n (lv' := [(2, .int (nI 0)), (0, .ref a0), (1, .int (nI b))]) C dX3_readWords_1 (by decide) rfl rfl ?_
  have loop1 : ∀ (r t : Nat) (wds1 : Nat → Int32) (w1 : wd_T), t + r = 16 → (w1 112 = some (aw, aI g 64 wds1)) → (∀ j, j < t → wds1 j = sc9 msg b j) → (Fr w w1 112 113) → V g k 5 w1 0 0 (kQ g k (fun v w' => v = none ∧ (∃ wds' : Nat → Int32, w' 112 = some (aw, aI g 64 wds') ∧ ∀ j, j < 64 → wds' j = sc9 msg b j) ∧ Fr w w' 112 113) 0 0) 2 [(2, .int (nI t)), (0, .ref a0), (1, .int (nI b))] [] := by
    intro r
    induction r with
    | zero =>
      intro t wds1 w1 hi g2 gs gf
      have g0 : w1 110 = _ := (gf 110 (by decide)).trans h0
      have g1 : w1 111 = _ := (gf 111 (by decide)).trans h1
      refine r_iload_n C 0 dX3_readWords_2 rfl rfl ?_
      refine r_bipush C (nI 16) dX3_readWords_3 (by decide) rfl ?_
      refine r_icmp_ge_t (tgt := 61) C dX3_readWords_5 (by decide) ((nI_leI (a := 16) (b := t) (by omega) (by omega)).mpr (by omega)) ?_
      obtain rfl : t = 16 := by omega
      refine r_bipush C (nI 16) dX3_readWords_61 (by decide) rfl ?_
      refine r_istore_n (lv' := [(2, .int (nI 16)), (0, .ref a0), (1, .int (nI b))]) C dX3_readWords_63 (by decide) rfl rfl ?_
      refine r_sub (lv' := [(2, .int (nI 16)), (0, .ref a0), (1, .int (nI b))]) [0, 1, 2] rfl ?_
      exact loop2 48 16 wds1 w1 (by omega) (by omega) g2 gs gf
    | succ r ih =>
      intro t wds1 w1 hi g2 gs gf
      have g0 : w1 110 = _ := (gf 110 (by decide)).trans h0
      have g1 : w1 111 = _ := (gf 111 (by decide)).trans h1
      refine r_iload_n C 0 dX3_readWords_2 rfl rfl ?_
      refine r_bipush C (nI 16) dX3_readWords_3 (by decide) rfl ?_
      refine r_icmp_ge_f (tgt := 61) C dX3_readWords_5 (by decide) rfl (fun z => absurd ((nI_leI (a := 16) (b := t) (by omega) (by omega)).mp z) (by omega)) ?_
      refine r_iconst C (nI 0) dX3_readWords_8 (by decide) rfl ?_
      refine r_istore_n (lv' := [(3, .int (nI 0)), (2, .int (nI t)), (0, .ref a0), (1, .int (nI b))]) C dX3_readWords_9 (by decide) rfl rfl ?_
      refine r_iconst C (nI 0) dX3_readWords_10 (by decide) rfl ?_
      refine r_istore (lv' := [(4, .int (nI 0)), (3, .int (nI 0)), (2, .int (nI t)), (0, .ref a0), (1, .int (nI b))]) C dX3_readWords_11 (by decide) rfl rfl ?_
      refine r_iload C 0 dX3_readWords_13 rfl rfl ?_
      refine r_iconst C (nI 4) dX3_readWords_15 (by decide) rfl ?_
      refine r_icmp_ge_f (tgt := 48) C dX3_readWords_16 (by decide) rfl (fun z => absurd ((nI_leI (a := 4) (b := 0) (by omega) (by omega)).mp z) (by omega)) ?_
      refine r_iload_n C 1 dX3_readWords_19 rfl rfl ?_
      refine r_bipush C (nI 8) dX3_readWords_20 (by decide) rfl ?_
      refine r_ishl C dX3_readWords_22 rfl ?_
      refine r_aload_n C 3 dX3_readWords_23 rfl rfl ?_
      refine r_get (t := 110) C koX3 g0 0 (by decide) q87 rfl rfl dX3_readWords_24 rfl ?_
      refine r_iload_n C 4 dX3_readWords_27 rfl rfl ?_
      refine r_iconst C (nI 4) dX3_readWords_28 (by decide) rfl ?_
      refine r_iload_n C 2 dX3_readWords_29 rfl rfl ?_
      refine r_imul C dX3_readWords_30 rfl ?_
      refine r_ti (show ((nI 4) * (nI t) : Int32) = nI (4 * t) from pk_mul 4 t) ?_
      refine r_iadd C dX3_readWords_31 rfl ?_
      refine r_ti (show ((nI b) + (nI (4 * t)) : Int32) = nI (b + (4 * t)) from nI_add b (4 * t)) ?_
      refine r_iload C 0 dX3_readWords_32 rfl rfl ?_
      refine r_iadd C dX3_readWords_34 rfl ?_
      refine r_ti (show ((nI (b + (4 * t))) + (nI 0) : Int32) = nI (b + (4 * t) + 0) from nI_add (b + (4 * t)) 0) ?_
      refine r_bald (t := 111) C g1 (b + (4 * t) + 0) rfl (by omega) (by decide) dX3_readWords_35 rfl ?_
      refine r_sipush C (nI 255) dX3_readWords_36 (by decide) rfl ?_
      refine r_iand C dX3_readWords_39 rfl ?_
      refine r_ior C dX3_readWords_40 rfl ?_
      refine r_istore_n (lv' := [(3, .int (((nI 0) <<< ((nI 8) &&& 31)) ||| ((msg (b + (4 * t) + 0)) &&& (nI 255)))), (4, .int (nI 0)), (2, .int (nI t)), (0, .ref a0), (1, .int (nI b))]) C dX3_readWords_41 (by decide) rfl rfl ?_
      refine r_iinc (v := nI 1) (lv' := [(4, .int (nI 1)), (3, .int (((nI 0) <<< ((nI 8) &&& 31)) ||| ((msg (b + (4 * t) + 0)) &&& (nI 255)))), (2, .int (nI t)), (0, .ref a0), (1, .int (nI b))]) C 1 dX3_readWords_42 rfl (nI_1 0) (by decide) rfl rfl ?_
      refine r_goto (tgt := 13) C dX3_readWords_45 (by decide) ?_
      refine r_iload C 0 dX3_readWords_13 rfl rfl ?_
      refine r_iconst C (nI 4) dX3_readWords_15 (by decide) rfl ?_
      refine r_icmp_ge_f (tgt := 48) C dX3_readWords_16 (by decide) rfl (fun z => absurd ((nI_leI (a := 4) (b := 1) (by omega) (by omega)).mp z) (by omega)) ?_
      refine r_iload_n C 1 dX3_readWords_19 rfl rfl ?_
      refine r_bipush C (nI 8) dX3_readWords_20 (by decide) rfl ?_
      refine r_ishl C dX3_readWords_22 rfl ?_
      refine r_aload_n C 3 dX3_readWords_23 rfl rfl ?_
      refine r_get (t := 110) C koX3 g0 0 (by decide) q87 rfl rfl dX3_readWords_24 rfl ?_
      refine r_iload_n C 4 dX3_readWords_27 rfl rfl ?_
      refine r_iconst C (nI 4) dX3_readWords_28 (by decide) rfl ?_
      refine r_iload_n C 2 dX3_readWords_29 rfl rfl ?_
      refine r_imul C dX3_readWords_30 rfl ?_
      refine r_ti (show ((nI 4) * (nI t) : Int32) = nI (4 * t) from pk_mul 4 t) ?_
      refine r_iadd C dX3_readWords_31 rfl ?_
      refine r_ti (show ((nI b) + (nI (4 * t)) : Int32) = nI (b + (4 * t)) from nI_add b (4 * t)) ?_
      refine r_iload C 0 dX3_readWords_32 rfl rfl ?_
      refine r_iadd C dX3_readWords_34 rfl ?_
      refine r_ti (show ((nI (b + (4 * t))) + (nI 1) : Int32) = nI (b + (4 * t) + 1) from nI_add (b + (4 * t)) 1) ?_
      refine r_bald (t := 111) C g1 (b + (4 * t) + 1) rfl (by omega) (by decide) dX3_readWords_35 rfl ?_
      refine r_sipush C (nI 255) dX3_readWords_36 (by decide) rfl ?_
      refine r_iand C dX3_readWords_39 rfl ?_
      refine r_ior C dX3_readWords_40 rfl ?_
      refine r_istore_n (lv' := [(3, .int (((((nI 0) <<< ((nI 8) &&& 31)) ||| ((msg (b + (4 * t) + 0)) &&& (nI 255))) <<< ((nI 8) &&& 31)) ||| ((msg (b + (4 * t) + 1)) &&& (nI 255)))), (4, .int (nI 1)), (2, .int (nI t)), (0, .ref a0), (1, .int (nI b))]) C dX3_readWords_41 (by decide) rfl rfl ?_
      refine r_iinc (v := nI 2) (lv' := [(4, .int (nI 2)), (3, .int (((((nI 0) <<< ((nI 8) &&& 31)) ||| ((msg (b + (4 * t) + 0)) &&& (nI 255))) <<< ((nI 8) &&& 31)) ||| ((msg (b + (4 * t) + 1)) &&& (nI 255)))), (2, .int (nI t)), (0, .ref a0), (1, .int (nI b))]) C 1 dX3_readWords_42 rfl (nI_1 1) (by decide) rfl rfl ?_
      refine r_goto (tgt := 13) C dX3_readWords_45 (by decide) ?_
      refine r_iload C 0 dX3_readWords_13 rfl rfl ?_
      refine r_iconst C (nI 4) dX3_readWords_15 (by decide) rfl ?_
      refine r_icmp_ge_f (tgt := 48) C dX3_readWords_16 (by decide) rfl (fun z => absurd ((nI_leI (a := 4) (b := 2) (by omega) (by omega)).mp z) (by omega)) ?_
      refine r_iload_n C 1 dX3_readWords_19 rfl rfl ?_
      refine r_bipush C (nI 8) dX3_readWords_20 (by decide) rfl ?_
      refine r_ishl C dX3_readWords_22 rfl ?_
      refine r_aload_n C 3 dX3_readWords_23 rfl rfl ?_
      refine r_get (t := 110) C koX3 g0 0 (by decide) q87 rfl rfl dX3_readWords_24 rfl ?_
      refine r_iload_n C 4 dX3_readWords_27 rfl rfl ?_
      refine r_iconst C (nI 4) dX3_readWords_28 (by decide) rfl ?_
      refine r_iload_n C 2 dX3_readWords_29 rfl rfl ?_
      refine r_imul C dX3_readWords_30 rfl ?_
      refine r_ti (show ((nI 4) * (nI t) : Int32) = nI (4 * t) from pk_mul 4 t) ?_
      refine r_iadd C dX3_readWords_31 rfl ?_
      refine r_ti (show ((nI b) + (nI (4 * t)) : Int32) = nI (b + (4 * t)) from nI_add b (4 * t)) ?_
      refine r_iload C 0 dX3_readWords_32 rfl rfl ?_
      refine r_iadd C dX3_readWords_34 rfl ?_
      refine r_ti (show ((nI (b + (4 * t))) + (nI 2) : Int32) = nI (b + (4 * t) + 2) from nI_add (b + (4 * t)) 2) ?_
      refine r_bald (t := 111) C g1 (b + (4 * t) + 2) rfl (by omega) (by decide) dX3_readWords_35 rfl ?_
      refine r_sipush C (nI 255) dX3_readWords_36 (by decide) rfl ?_
      refine r_iand C dX3_readWords_39 rfl ?_
      refine r_ior C dX3_readWords_40 rfl ?_
      refine r_istore_n (lv' := [(3, .int (((((((nI 0) <<< ((nI 8) &&& 31)) ||| ((msg (b + (4 * t) + 0)) &&& (nI 255))) <<< ((nI 8) &&& 31)) ||| ((msg (b + (4 * t) + 1)) &&& (nI 255))) <<< ((nI 8) &&& 31)) ||| ((msg (b + (4 * t) + 2)) &&& (nI 255)))), (4, .int (nI 2)), (2, .int (nI t)), (0, .ref a0), (1, .int (nI b))]) C dX3_readWords_41 (by decide) rfl rfl ?_
      refine r_iinc (v := nI 3) (lv' := [(4, .int (nI 3)), (3, .int (((((((nI 0) <<< ((nI 8) &&& 31)) ||| ((msg (b + (4 * t) + 0)) &&& (nI 255))) <<< ((nI 8) &&& 31)) ||| ((msg (b + (4 * t) + 1)) &&& (nI 255))) <<< ((nI 8) &&& 31)) ||| ((msg (b + (4 * t) + 2)) &&& (nI 255)))), (2, .int (nI t)), (0, .ref a0), (1, .int (nI b))]) C 1 dX3_readWords_42 rfl (nI_1 2) (by decide) rfl rfl ?_
      refine r_goto (tgt := 13) C dX3_readWords_45 (by decide) ?_
      refine r_iload C 0 dX3_readWords_13 rfl rfl ?_
      refine r_iconst C (nI 4) dX3_readWords_15 (by decide) rfl ?_
      refine r_icmp_ge_f (tgt := 48) C dX3_readWords_16 (by decide) rfl (fun z => absurd ((nI_leI (a := 4) (b := 3) (by omega) (by omega)).mp z) (by omega)) ?_
      refine r_iload_n C 1 dX3_readWords_19 rfl rfl ?_
      refine r_bipush C (nI 8) dX3_readWords_20 (by decide) rfl ?_
      refine r_ishl C dX3_readWords_22 rfl ?_
      refine r_aload_n C 3 dX3_readWords_23 rfl rfl ?_
      refine r_get (t := 110) C koX3 g0 0 (by decide) q87 rfl rfl dX3_readWords_24 rfl ?_
      refine r_iload_n C 4 dX3_readWords_27 rfl rfl ?_
      refine r_iconst C (nI 4) dX3_readWords_28 (by decide) rfl ?_
      refine r_iload_n C 2 dX3_readWords_29 rfl rfl ?_
      refine r_imul C dX3_readWords_30 rfl ?_
      refine r_ti (show ((nI 4) * (nI t) : Int32) = nI (4 * t) from pk_mul 4 t) ?_
      refine r_iadd C dX3_readWords_31 rfl ?_
      refine r_ti (show ((nI b) + (nI (4 * t)) : Int32) = nI (b + (4 * t)) from nI_add b (4 * t)) ?_
      refine r_iload C 0 dX3_readWords_32 rfl rfl ?_
      refine r_iadd C dX3_readWords_34 rfl ?_
      refine r_ti (show ((nI (b + (4 * t))) + (nI 3) : Int32) = nI (b + (4 * t) + 3) from nI_add (b + (4 * t)) 3) ?_
      refine r_bald (t := 111) C g1 (b + (4 * t) + 3) rfl (by omega) (by decide) dX3_readWords_35 rfl ?_
      refine r_sipush C (nI 255) dX3_readWords_36 (by decide) rfl ?_
      refine r_iand C dX3_readWords_39 rfl ?_
      refine r_ior C dX3_readWords_40 rfl ?_
      refine r_ti (show (((((((((nI 0) <<< ((nI 8) &&& 31)) ||| ((msg (b + (4 * t) + 0)) &&& (nI 255))) <<< ((nI 8) &&& 31)) ||| ((msg (b + (4 * t) + 1)) &&& (nI 255))) <<< ((nI 8) &&& 31)) ||| ((msg (b + (4 * t) + 2)) &&& (nI 255))) <<< ((nI 8) &&& 31)) ||| ((msg (b + (4 * t) + 3)) &&& (nI 255)) : Int32) = rdW msg (b + 4 * t) from rfl) ?_
      refine r_istore_n (lv' := [(3, .int (rdW msg (b + 4 * t))), (4, .int (nI 3)), (2, .int (nI t)), (0, .ref a0), (1, .int (nI b))]) C dX3_readWords_41 (by decide) rfl rfl ?_
      refine r_iinc (v := nI 4) (lv' := [(4, .int (nI 4)), (3, .int (rdW msg (b + 4 * t))), (2, .int (nI t)), (0, .ref a0), (1, .int (nI b))]) C 1 dX3_readWords_42 rfl (nI_1 3) (by decide) rfl rfl ?_
      refine r_goto (tgt := 13) C dX3_readWords_45 (by decide) ?_
      refine r_iload C 0 dX3_readWords_13 rfl rfl ?_
      refine r_iconst C (nI 4) dX3_readWords_15 (by decide) rfl ?_
      refine r_icmp_ge_t (tgt := 48) C dX3_readWords_16 (by decide) ((nI_leI (a := 4) (b := 4) (by omega) (by omega)).mpr (by omega)) ?_
      refine r_aload_n C 3 dX3_readWords_48 rfl rfl ?_
      refine r_get (t := 110) C koX3 g0 1 (by decide) q88 rfl rfl dX3_readWords_49 rfl ?_
      refine r_iload_n C 2 dX3_readWords_52 rfl rfl ?_
      refine r_iload_n C 1 dX3_readWords_53 rfl rfl ?_
      refine r_iast (t := 112) (w' := wd_set w1 112 aw (aI g 64 (upd wds1 t (rdW msg (b + 4 * t))))) C g2 t rfl (by omega) (by decide) dX3_readWords_54 rfl rfl ?_
      refine r_iinc (v := nI (t + 1)) (lv' := [(2, .int (nI (t + 1))), (4, .int (nI 4)), (3, .int (rdW msg (b + 4 * t))), (0, .ref a0), (1, .int (nI b))]) C 2 dX3_readWords_55 rfl (nI_1 t) (by decide) rfl rfl ?_
      refine r_goto (tgt := 2) C dX3_readWords_58 (by decide) ?_
      refine r_sub (lv' := [(2, .int (nI (t + 1))), (0, .ref a0), (1, .int (nI b))]) [0, 3, 4] rfl ?_
      exact ih (t + 1) _ _ (by omega) wd_eq (sc9_st0 gs (by omega)) (gf.trans (Fr.set (by decide) (by decide)))
  exact loop1 16 0 wds w (by omega) h2 (fun j hj => absurd hj (Nat.not_lt_zero j)) Fr.rfl'
