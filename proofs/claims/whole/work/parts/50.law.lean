/-! the law: its kinds of calls, its loop -/
theorem St9.t100 {g : cx_G} {w : wd_T} {c a0 m0 ao : Nat} (h : St9 g w c a0 m0 ao) : ∃ fs, w 100 = some (a0, ob 7 fs) := by
  obtain ⟨fl, tk, gN, rN, tN, fn, wn, gp, by9, rD, tD, tV, tT, ⟨a1, alb, alk, asp, a3, alr, asu, alv, af, asg, elb, elk, er, ab, gp', T, t0, -⟩, -⟩ := h
  exact ⟨_, t0⟩
theorem St9.up {g : cx_G} {w : wd_T} {c a0 m0 ao : Nat} (h : St9 g w c a0 m0 ao) (hc : c + 1 ≤ 48) : St9 g w (c + 1) a0 m0 ao := by
  obtain ⟨fl, tk, gN, rN, tN, fn, wn, gp, by9, rD, tD, tV, tT, hT, hM, hI, hZ, h50⟩ := h
  exact ⟨fl, tk, gN, rN, tN, fn, wn, gp, by9, rD, tD, tV, tT, hT, hM, hI.up hc, hZ, h50⟩
theorem and31 (x : Int32) : ∃ n, n < 32 ∧ x &&& nI 31 = nI n := by
  obtain ⟨a, -, rfl⟩ := wb_of32 x
  exact ⟨a % 32, Nat.mod_lt _ (by decide), fa_mask a 5⟩
theorem neg10 : ∀ n, n < 10 → nI n - nI 10 < nI 0 := by decide
theorem big17 : ∀ n, n < 32 → 17 ≤ n → (16 : Int) < (nI n).toInt := by decide
theorem L_T {b L : Nat} {xs : Nat → Int32} {U : State} {H : Heap} {A : Nat → Prop} (h : va_X b L xs U H) (hA : ¬ A b) : va_T .int b L (fun j => .int (xs j)) A U H := by
  obtain ⟨scr, h1, h2, h3, h4, h5⟩ := h
  exact ⟨scr, h1, h2, h3, by rw [h4]; exact Nat.le_refl _, by rw [h4], h5, hA⟩
set_option maxHeartbeats 4000000 in
set_option maxRecDepth 20000 in
theorem w_fol {g : cx_G} {k : kx_T} {b L : Nat} {xs : Nat → Int32} {Q : State → Prop} {w : wd_T} {c a0 m0 ao cells slots : Nat} (C : Cx g k RL cL_law 7 ret 19 600288 7293322) (hz : va_T .int b L (fun j => .int (xs j)) (cx_A g) (kxs k) (gH g)) (hL : L ≤ 480) (hi : 10 * c + 10 ≤ L) (hc : c + 1 ≤ 48) (z1 : cells + 7 ≤ 600288) (z2 : slots + 1015 ≤ 7293322) (hS : St9 g w c a0 m0 ao) (kk : ∀ w', St9 g w' (c + 1) a0 m0 ao → V g k 7 w' (cells + 7) (slots + 1015) Q 1010 [(0, .ref b), (1, .ref a0), (2, .ref m0), (3, .ref ao), (4, .int (nI (10 * c)))] []) : V g k 7 w cells slots Q 124 [(0, .ref b), (1, .ref a0), (2, .ref m0), (3, .ref ao), (4, .int (nI (10 * c)))] [] := by
  refine r_aload_n (q := 125) C 1 dL_law_124 rfl rfl ?_
  refine r_aload_n (q := 126) C 0 dL_law_125 rfl rfl ?_
  refine r_iload (q := 128) C 4 dL_law_126 rfl rfl ?_
  refine r_iconst (q := 129) C (nI 1) dL_law_128 (by decide) rfl ?_
  refine r_iadd (q := 130) C dL_law_129 rfl ?_
  refine r_ti (show ((nI (10 * c)) + (nI 1) : Int32) = nI (10 * c + 1) from nI_add (10 * c) 1) ?_
  refine r_siald (q := 131) C hz (10 * c + 1) rfl (by omega) (by omega) dL_law_130 rfl ?_
  refine r_aload_n (q := 132) C 0 dL_law_131 rfl rfl ?_
  refine r_iload (q := 134) C 4 dL_law_132 rfl rfl ?_
  refine r_iconst (q := 135) C (nI 2) dL_law_134 (by decide) rfl ?_
  refine r_iadd (q := 136) C dL_law_135 rfl ?_
  refine r_ti (show ((nI (10 * c)) + (nI 2) : Int32) = nI (10 * c + 2) from nI_add (10 * c) 2) ?_
  refine r_siald (q := 137) C hz (10 * c + 2) rfl (by omega) (by omega) dL_law_136 rfl ?_
  refine r_aload_n (q := 138) C 0 dL_law_137 rfl rfl ?_
  refine r_iload (q := 140) C 4 dL_law_138 rfl rfl ?_
  refine r_iconst (q := 141) C (nI 3) dL_law_140 (by decide) rfl ?_
  refine r_iadd (q := 142) C dL_law_141 rfl ?_
  refine r_ti (show ((nI (10 * c)) + (nI 3) : Int32) = nI (10 * c + 3) from nI_add (10 * c) 3) ?_
  refine r_siald (q := 143) C hz (10 * c + 3) rfl (by omega) (by omega) dL_law_142 rfl ?_
  refine r_i2l (q := 144) C dL_law_143 rfl ?_
  refine r_bipush (q := 146) C (nI 32) dL_law_144 (by decide) rfl ?_
  refine r_lshl (q := 147) C dL_law_146 rfl ?_
  refine r_aload_n (q := 148) C 0 dL_law_147 rfl rfl ?_
  refine r_iload (q := 150) C 4 dL_law_148 rfl rfl ?_
  refine r_iconst (q := 151) C (nI 4) dL_law_150 (by decide) rfl ?_
  refine r_iadd (q := 152) C dL_law_151 rfl ?_
  refine r_ti (show ((nI (10 * c)) + (nI 4) : Int32) = nI (10 * c + 4) from nI_add (10 * c) 4) ?_
  refine r_siald (q := 153) C hz (10 * c + 4) rfl (by omega) (by omega) dL_law_152 rfl ?_
  refine r_i2l (q := 154) C dL_law_153 rfl ?_
  refine r_ldc2 (q := 157) (v := lN 4294967295) C dL_law_154 q931 rfl ?_
  refine r_land (q := 158) C dL_law_157 rfl ?_
  refine r_lor (q := 159) C dL_law_158 rfl ?_
  obtain ⟨fs0, t100⟩ := hS.t100
  obtain ⟨_, Mid, Fin, ⟨v8, rfl⟩, px, pm, pS⟩ := pr_fol (l := kxl k) hS hc (xs (10 * c + 1)) (xs (10 * c + 2)) ((((xs (10 * c + 3)).toInt64) <<< ((nI 32).toInt64 &&& 63)) ||| (((xs (10 * c + 4)).toInt64) &&& (lN 4294967295)))
  refine r_callV (q := 162) (t := 100) (As := [.int (xs (10 * c + 1)), .int (xs (10 * c + 2)), .long ((((xs (10 * c + 3)).toInt64) <<< ((nI 32).toInt64 &&& 63)) ||| (((xs (10 * c + 4)).toInt64) &&& (lN 4294967295)))]) (st := []) C koX7 t100 (px) q150 q147 q148 q149 q1 rfl ⟨by decide, by decide⟩ (show (parseMethodDescriptor yX7_follows.desc).map (fun d => d.parameters.length) = some 3 by decide +kernel) (by decide) (by decide) (by omega) (by omega) (Nat.le_of_ble_eq_true rfl) rfl dL_law_159 rfl ?_
  rintro v9 w1 ⟨rfl, hMid⟩
  obtain ⟨⟨fs1, t0⟩, pm1⟩ := pm w1 hMid
  show V g k 7 w1 (cells + 2) (slots + 463) Q 162 [(0, .ref b), (1, .ref a0), (2, .ref m0), (3, .ref ao), (4, .int (nI (10 * c)))] [.int v8]
  refine r_aload_n (q := 163) C 2 dL_law_162 rfl rfl ?_
  refine r_aload_n (q := 164) C 0 dL_law_163 rfl rfl ?_
  refine r_iload (q := 166) C 4 dL_law_164 rfl rfl ?_
  refine r_iconst (q := 167) C (nI 1) dL_law_166 (by decide) rfl ?_
  refine r_iadd (q := 168) C dL_law_167 rfl ?_
  refine r_ti (show ((nI (10 * c)) + (nI 1) : Int32) = nI (10 * c + 1) from nI_add (10 * c) 1) ?_
  refine r_siald (q := 169) C hz (10 * c + 1) rfl (by omega) (by omega) dL_law_168 rfl ?_
  refine r_aload_n (q := 170) C 0 dL_law_169 rfl rfl ?_
  refine r_iload (q := 172) C 4 dL_law_170 rfl rfl ?_
  refine r_iconst (q := 173) C (nI 2) dL_law_172 (by decide) rfl ?_
  refine r_iadd (q := 174) C dL_law_173 rfl ?_
  refine r_ti (show ((nI (10 * c)) + (nI 2) : Int32) = nI (10 * c + 2) from nI_add (10 * c) 2) ?_
  refine r_siald (q := 175) C hz (10 * c + 2) rfl (by omega) (by omega) dL_law_174 rfl ?_
  refine r_aload_n (q := 176) C 0 dL_law_175 rfl rfl ?_
  refine r_iload (q := 178) C 4 dL_law_176 rfl rfl ?_
  refine r_iconst (q := 179) C (nI 3) dL_law_178 (by decide) rfl ?_
  refine r_iadd (q := 180) C dL_law_179 rfl ?_
  refine r_ti (show ((nI (10 * c)) + (nI 3) : Int32) = nI (10 * c + 3) from nI_add (10 * c) 3) ?_
  refine r_siald (q := 181) C hz (10 * c + 3) rfl (by omega) (by omega) dL_law_180 rfl ?_
  refine r_i2l (q := 182) C dL_law_181 rfl ?_
  refine r_bipush (q := 184) C (nI 32) dL_law_182 (by decide) rfl ?_
  refine r_lshl (q := 185) C dL_law_184 rfl ?_
  refine r_aload_n (q := 186) C 0 dL_law_185 rfl rfl ?_
  refine r_iload (q := 188) C 4 dL_law_186 rfl rfl ?_
  refine r_iconst (q := 189) C (nI 4) dL_law_188 (by decide) rfl ?_
  refine r_iadd (q := 190) C dL_law_189 rfl ?_
  refine r_ti (show ((nI (10 * c)) + (nI 4) : Int32) = nI (10 * c + 4) from nI_add (10 * c) 4) ?_
  refine r_siald (q := 191) C hz (10 * c + 4) rfl (by omega) (by omega) dL_law_190 rfl ?_
  refine r_i2l (q := 192) C dL_law_191 rfl ?_
  refine r_ldc2 (q := 195) (v := lN 4294967295) C dL_law_192 q931 rfl ?_
  refine r_land (q := 196) C dL_law_195 rfl ?_
  refine r_lor (q := 197) C dL_law_196 rfl ?_
  refine r_callV (q := 200) (t := 0) (As := [.int (xs (10 * c + 1)), .int (xs (10 * c + 2)), .long ((((xs (10 * c + 3)).toInt64) <<< ((nI 32).toInt64 &&& 63)) ||| (((xs (10 * c + 4)).toInt64) &&& (lN 4294967295)))]) (st := [.int v8]) C koX8 t0 (pm1) q783 q780 q781 q782 q9 rfl ⟨by decide, by decide⟩ (show (parseMethodDescriptor yX8_follows.desc).map (fun d => d.parameters.length) = some 3 by decide +kernel) (by decide) (by decide) (by omega) (by omega) (Nat.le_of_ble_eq_true rfl) rfl dL_law_197 rfl ?_
  rintro v9 w2 ⟨rfl, hFin⟩
  show V g k 7 w2 (cells + 2) (slots + 463) Q 200 [(0, .ref b), (1, .ref a0), (2, .ref m0), (3, .ref ao), (4, .int (nI (10 * c)))] [.int v8, .int v8]
  refine r_icmp_eq_t (tgt := 1010) C dL_law_200 (by decide) (rfl) ?_
  exact r_widen (by omega) (by omega) (kk w2 (pS w1 w2 hMid hFin))

set_option maxHeartbeats 4000000 in
set_option maxRecDepth 20000 in
theorem w_tk {g : cx_G} {k : kx_T} {b L : Nat} {xs : Nat → Int32} {Q : State → Prop} {w : wd_T} {c a0 m0 ao cells slots : Nat} (C : Cx g k RL cL_law 7 ret 19 600288 7293322) (hz : va_T .int b L (fun j => .int (xs j)) (cx_A g) (kxs k) (gH g)) (hL : L ≤ 480) (hi : 10 * c + 10 ≤ L) (hc : c + 1 ≤ 48) (z1 : cells + 7 ≤ 600288) (z2 : slots + 1015 ≤ 7293322) (hS : St9 g w c a0 m0 ao) (kk : ∀ w', St9 g w' (c + 1) a0 m0 ao → V g k 7 w' (cells + 7) (slots + 1015) Q 1010 [(0, .ref b), (1, .ref a0), (2, .ref m0), (3, .ref ao), (4, .int (nI (10 * c)))] []) : V g k 7 w cells slots Q 205 [(0, .ref b), (1, .ref a0), (2, .ref m0), (3, .ref ao), (4, .int (nI (10 * c)))] [] := by
  refine r_aload_n (q := 206) C 1 dL_law_205 rfl rfl ?_
  refine r_aload_n (q := 207) C 0 dL_law_206 rfl rfl ?_
  refine r_iload (q := 209) C 4 dL_law_207 rfl rfl ?_
  refine r_iconst (q := 210) C (nI 1) dL_law_209 (by decide) rfl ?_
  refine r_iadd (q := 211) C dL_law_210 rfl ?_
  refine r_ti (show ((nI (10 * c)) + (nI 1) : Int32) = nI (10 * c + 1) from nI_add (10 * c) 1) ?_
  refine r_siald (q := 212) C hz (10 * c + 1) rfl (by omega) (by omega) dL_law_211 rfl ?_
  refine r_aload_n (q := 213) C 0 dL_law_212 rfl rfl ?_
  refine r_iload (q := 215) C 4 dL_law_213 rfl rfl ?_
  refine r_iconst (q := 216) C (nI 2) dL_law_215 (by decide) rfl ?_
  refine r_iadd (q := 217) C dL_law_216 rfl ?_
  refine r_ti (show ((nI (10 * c)) + (nI 2) : Int32) = nI (10 * c + 2) from nI_add (10 * c) 2) ?_
  refine r_siald (q := 218) C hz (10 * c + 2) rfl (by omega) (by omega) dL_law_217 rfl ?_
  refine r_aload_n (q := 219) C 0 dL_law_218 rfl rfl ?_
  refine r_iload (q := 221) C 4 dL_law_219 rfl rfl ?_
  refine r_iconst (q := 222) C (nI 3) dL_law_221 (by decide) rfl ?_
  refine r_iadd (q := 223) C dL_law_222 rfl ?_
  refine r_ti (show ((nI (10 * c)) + (nI 3) : Int32) = nI (10 * c + 3) from nI_add (10 * c) 3) ?_
  refine r_siald (q := 224) C hz (10 * c + 3) rfl (by omega) (by omega) dL_law_223 rfl ?_
  refine r_i2l (q := 225) C dL_law_224 rfl ?_
  refine r_bipush (q := 227) C (nI 32) dL_law_225 (by decide) rfl ?_
  refine r_lshl (q := 228) C dL_law_227 rfl ?_
  refine r_aload_n (q := 229) C 0 dL_law_228 rfl rfl ?_
  refine r_iload (q := 231) C 4 dL_law_229 rfl rfl ?_
  refine r_iconst (q := 232) C (nI 4) dL_law_231 (by decide) rfl ?_
  refine r_iadd (q := 233) C dL_law_232 rfl ?_
  refine r_ti (show ((nI (10 * c)) + (nI 4) : Int32) = nI (10 * c + 4) from nI_add (10 * c) 4) ?_
  refine r_siald (q := 234) C hz (10 * c + 4) rfl (by omega) (by omega) dL_law_233 rfl ?_
  refine r_i2l (q := 235) C dL_law_234 rfl ?_
  refine r_ldc2 (q := 238) (v := lN 4294967295) C dL_law_235 q931 rfl ?_
  refine r_land (q := 239) C dL_law_238 rfl ?_
  refine r_lor (q := 240) C dL_law_239 rfl ?_
  refine r_aload_n (q := 241) C 0 dL_law_240 rfl rfl ?_
  refine r_iload (q := 243) C 4 dL_law_241 rfl rfl ?_
  refine r_iconst (q := 244) C (nI 5) dL_law_243 (by decide) rfl ?_
  refine r_iadd (q := 245) C dL_law_244 rfl ?_
  refine r_ti (show ((nI (10 * c)) + (nI 5) : Int32) = nI (10 * c + 5) from nI_add (10 * c) 5) ?_
  refine r_siald (q := 246) C hz (10 * c + 5) rfl (by omega) (by omega) dL_law_245 rfl ?_
  refine r_i2l (q := 247) C dL_law_246 rfl ?_
  refine r_bipush (q := 249) C (nI 32) dL_law_247 (by decide) rfl ?_
  refine r_lshl (q := 250) C dL_law_249 rfl ?_
  refine r_aload_n (q := 251) C 0 dL_law_250 rfl rfl ?_
  refine r_iload (q := 253) C 4 dL_law_251 rfl rfl ?_
  refine r_bipush (q := 255) C (nI 6) dL_law_253 (by decide) rfl ?_
  refine r_iadd (q := 256) C dL_law_255 rfl ?_
  refine r_ti (show ((nI (10 * c)) + (nI 6) : Int32) = nI (10 * c + 6) from nI_add (10 * c) 6) ?_
  refine r_siald (q := 257) C hz (10 * c + 6) rfl (by omega) (by omega) dL_law_256 rfl ?_
  refine r_i2l (q := 258) C dL_law_257 rfl ?_
  refine r_ldc2 (q := 261) (v := lN 4294967295) C dL_law_258 q931 rfl ?_
  refine r_land (q := 262) C dL_law_261 rfl ?_
  refine r_lor (q := 263) C dL_law_262 rfl ?_
  refine r_aload_n (q := 264) C 0 dL_law_263 rfl rfl ?_
  refine r_iload (q := 266) C 4 dL_law_264 rfl rfl ?_
  refine r_bipush (q := 268) C (nI 7) dL_law_266 (by decide) rfl ?_
  refine r_iadd (q := 269) C dL_law_268 rfl ?_
  refine r_ti (show ((nI (10 * c)) + (nI 7) : Int32) = nI (10 * c + 7) from nI_add (10 * c) 7) ?_
  refine r_siald (q := 270) C hz (10 * c + 7) rfl (by omega) (by omega) dL_law_269 rfl ?_
  refine r_i2l (q := 271) C dL_law_270 rfl ?_
  refine r_bipush (q := 273) C (nI 32) dL_law_271 (by decide) rfl ?_
  refine r_lshl (q := 274) C dL_law_273 rfl ?_
  refine r_aload_n (q := 275) C 0 dL_law_274 rfl rfl ?_
  refine r_iload (q := 277) C 4 dL_law_275 rfl rfl ?_
  refine r_bipush (q := 279) C (nI 8) dL_law_277 (by decide) rfl ?_
  refine r_iadd (q := 280) C dL_law_279 rfl ?_
  refine r_ti (show ((nI (10 * c)) + (nI 8) : Int32) = nI (10 * c + 8) from nI_add (10 * c) 8) ?_
  refine r_siald (q := 281) C hz (10 * c + 8) rfl (by omega) (by omega) dL_law_280 rfl ?_
  refine r_i2l (q := 282) C dL_law_281 rfl ?_
  refine r_ldc2 (q := 285) (v := lN 4294967295) C dL_law_282 q931 rfl ?_
  refine r_land (q := 286) C dL_law_285 rfl ?_
  refine r_lor (q := 287) C dL_law_286 rfl ?_
  refine r_aload_n (q := 288) C 0 dL_law_287 rfl rfl ?_
  refine r_iload (q := 290) C 4 dL_law_288 rfl rfl ?_
  refine r_bipush (q := 292) C (nI 9) dL_law_290 (by decide) rfl ?_
  refine r_iadd (q := 293) C dL_law_292 rfl ?_
  refine r_ti (show ((nI (10 * c)) + (nI 9) : Int32) = nI (10 * c + 9) from nI_add (10 * c) 9) ?_
  refine r_siald (q := 294) C hz (10 * c + 9) rfl (by omega) (by omega) dL_law_293 rfl ?_
  obtain ⟨fs0, t100⟩ := hS.t100
  obtain ⟨_, Mid, Fin, ⟨v8, rfl⟩, px, pm, pS⟩ := pr_tk (l := kxl k) hS hc (xs (10 * c + 1)) (xs (10 * c + 2)) ((((xs (10 * c + 3)).toInt64) <<< ((nI 32).toInt64 &&& 63)) ||| (((xs (10 * c + 4)).toInt64) &&& (lN 4294967295))) ((((xs (10 * c + 5)).toInt64) <<< ((nI 32).toInt64 &&& 63)) ||| (((xs (10 * c + 6)).toInt64) &&& (lN 4294967295))) ((((xs (10 * c + 7)).toInt64) <<< ((nI 32).toInt64 &&& 63)) ||| (((xs (10 * c + 8)).toInt64) &&& (lN 4294967295))) (xs (10 * c + 9))
  refine r_callV (q := 297) (t := 100) (As := [.int (xs (10 * c + 1)), .int (xs (10 * c + 2)), .long ((((xs (10 * c + 3)).toInt64) <<< ((nI 32).toInt64 &&& 63)) ||| (((xs (10 * c + 4)).toInt64) &&& (lN 4294967295))), .long ((((xs (10 * c + 5)).toInt64) <<< ((nI 32).toInt64 &&& 63)) ||| (((xs (10 * c + 6)).toInt64) &&& (lN 4294967295))), .long ((((xs (10 * c + 7)).toInt64) <<< ((nI 32).toInt64 &&& 63)) ||| (((xs (10 * c + 8)).toInt64) &&& (lN 4294967295))), .int (xs (10 * c + 9))]) (st := []) C koX7 t100 (px) q270 q267 q268 q269 q1 rfl ⟨by decide, by decide⟩ (show (parseMethodDescriptor yX7_ticket.desc).map (fun d => d.parameters.length) = some 6 by decide +kernel) (by decide) (by decide) (by omega) (by omega) (Nat.le_of_ble_eq_true rfl) rfl dL_law_294 rfl ?_
  rintro v9 w1 ⟨rfl, hMid⟩
  obtain ⟨⟨fs1, t0⟩, pm1⟩ := pm w1 hMid
  show V g k 7 w1 (cells + 7) (slots + 1015) Q 297 [(0, .ref b), (1, .ref a0), (2, .ref m0), (3, .ref ao), (4, .int (nI (10 * c)))] [.int v8]
  refine r_aload_n (q := 298) C 2 dL_law_297 rfl rfl ?_
  refine r_aload_n (q := 299) C 0 dL_law_298 rfl rfl ?_
  refine r_iload (q := 301) C 4 dL_law_299 rfl rfl ?_
  refine r_iconst (q := 302) C (nI 1) dL_law_301 (by decide) rfl ?_
  refine r_iadd (q := 303) C dL_law_302 rfl ?_
  refine r_ti (show ((nI (10 * c)) + (nI 1) : Int32) = nI (10 * c + 1) from nI_add (10 * c) 1) ?_
  refine r_siald (q := 304) C hz (10 * c + 1) rfl (by omega) (by omega) dL_law_303 rfl ?_
  refine r_aload_n (q := 305) C 0 dL_law_304 rfl rfl ?_
  refine r_iload (q := 307) C 4 dL_law_305 rfl rfl ?_
  refine r_iconst (q := 308) C (nI 2) dL_law_307 (by decide) rfl ?_
  refine r_iadd (q := 309) C dL_law_308 rfl ?_
  refine r_ti (show ((nI (10 * c)) + (nI 2) : Int32) = nI (10 * c + 2) from nI_add (10 * c) 2) ?_
  refine r_siald (q := 310) C hz (10 * c + 2) rfl (by omega) (by omega) dL_law_309 rfl ?_
  refine r_aload_n (q := 311) C 0 dL_law_310 rfl rfl ?_
  refine r_iload (q := 313) C 4 dL_law_311 rfl rfl ?_
  refine r_iconst (q := 314) C (nI 3) dL_law_313 (by decide) rfl ?_
  refine r_iadd (q := 315) C dL_law_314 rfl ?_
  refine r_ti (show ((nI (10 * c)) + (nI 3) : Int32) = nI (10 * c + 3) from nI_add (10 * c) 3) ?_
  refine r_siald (q := 316) C hz (10 * c + 3) rfl (by omega) (by omega) dL_law_315 rfl ?_
  refine r_i2l (q := 317) C dL_law_316 rfl ?_
  refine r_bipush (q := 319) C (nI 32) dL_law_317 (by decide) rfl ?_
  refine r_lshl (q := 320) C dL_law_319 rfl ?_
  refine r_aload_n (q := 321) C 0 dL_law_320 rfl rfl ?_
  refine r_iload (q := 323) C 4 dL_law_321 rfl rfl ?_
  refine r_iconst (q := 324) C (nI 4) dL_law_323 (by decide) rfl ?_
  refine r_iadd (q := 325) C dL_law_324 rfl ?_
  refine r_ti (show ((nI (10 * c)) + (nI 4) : Int32) = nI (10 * c + 4) from nI_add (10 * c) 4) ?_
  refine r_siald (q := 326) C hz (10 * c + 4) rfl (by omega) (by omega) dL_law_325 rfl ?_
  refine r_i2l (q := 327) C dL_law_326 rfl ?_
  refine r_ldc2 (q := 330) (v := lN 4294967295) C dL_law_327 q931 rfl ?_
  refine r_land (q := 331) C dL_law_330 rfl ?_
  refine r_lor (q := 332) C dL_law_331 rfl ?_
  refine r_aload_n (q := 333) C 0 dL_law_332 rfl rfl ?_
  refine r_iload (q := 335) C 4 dL_law_333 rfl rfl ?_
  refine r_iconst (q := 336) C (nI 5) dL_law_335 (by decide) rfl ?_
  refine r_iadd (q := 337) C dL_law_336 rfl ?_
  refine r_ti (show ((nI (10 * c)) + (nI 5) : Int32) = nI (10 * c + 5) from nI_add (10 * c) 5) ?_
  refine r_siald (q := 338) C hz (10 * c + 5) rfl (by omega) (by omega) dL_law_337 rfl ?_
  refine r_i2l (q := 339) C dL_law_338 rfl ?_
  refine r_bipush (q := 341) C (nI 32) dL_law_339 (by decide) rfl ?_
  refine r_lshl (q := 342) C dL_law_341 rfl ?_
  refine r_aload_n (q := 343) C 0 dL_law_342 rfl rfl ?_
  refine r_iload (q := 345) C 4 dL_law_343 rfl rfl ?_
  refine r_bipush (q := 347) C (nI 6) dL_law_345 (by decide) rfl ?_
  refine r_iadd (q := 348) C dL_law_347 rfl ?_
  refine r_ti (show ((nI (10 * c)) + (nI 6) : Int32) = nI (10 * c + 6) from nI_add (10 * c) 6) ?_
  refine r_siald (q := 349) C hz (10 * c + 6) rfl (by omega) (by omega) dL_law_348 rfl ?_
  refine r_i2l (q := 350) C dL_law_349 rfl ?_
  refine r_ldc2 (q := 353) (v := lN 4294967295) C dL_law_350 q931 rfl ?_
  refine r_land (q := 354) C dL_law_353 rfl ?_
  refine r_lor (q := 355) C dL_law_354 rfl ?_
  refine r_aload_n (q := 356) C 0 dL_law_355 rfl rfl ?_
  refine r_iload (q := 358) C 4 dL_law_356 rfl rfl ?_
  refine r_bipush (q := 360) C (nI 7) dL_law_358 (by decide) rfl ?_
  refine r_iadd (q := 361) C dL_law_360 rfl ?_
  refine r_ti (show ((nI (10 * c)) + (nI 7) : Int32) = nI (10 * c + 7) from nI_add (10 * c) 7) ?_
  refine r_siald (q := 362) C hz (10 * c + 7) rfl (by omega) (by omega) dL_law_361 rfl ?_
  refine r_i2l (q := 363) C dL_law_362 rfl ?_
  refine r_bipush (q := 365) C (nI 32) dL_law_363 (by decide) rfl ?_
  refine r_lshl (q := 366) C dL_law_365 rfl ?_
  refine r_aload_n (q := 367) C 0 dL_law_366 rfl rfl ?_
  refine r_iload (q := 369) C 4 dL_law_367 rfl rfl ?_
  refine r_bipush (q := 371) C (nI 8) dL_law_369 (by decide) rfl ?_
  refine r_iadd (q := 372) C dL_law_371 rfl ?_
  refine r_ti (show ((nI (10 * c)) + (nI 8) : Int32) = nI (10 * c + 8) from nI_add (10 * c) 8) ?_
  refine r_siald (q := 373) C hz (10 * c + 8) rfl (by omega) (by omega) dL_law_372 rfl ?_
  refine r_i2l (q := 374) C dL_law_373 rfl ?_
  refine r_ldc2 (q := 377) (v := lN 4294967295) C dL_law_374 q931 rfl ?_
  refine r_land (q := 378) C dL_law_377 rfl ?_
  refine r_lor (q := 379) C dL_law_378 rfl ?_
  refine r_aload_n (q := 380) C 0 dL_law_379 rfl rfl ?_
  refine r_iload (q := 382) C 4 dL_law_380 rfl rfl ?_
  refine r_bipush (q := 384) C (nI 9) dL_law_382 (by decide) rfl ?_
  refine r_iadd (q := 385) C dL_law_384 rfl ?_
  refine r_ti (show ((nI (10 * c)) + (nI 9) : Int32) = nI (10 * c + 9) from nI_add (10 * c) 9) ?_
  refine r_siald (q := 386) C hz (10 * c + 9) rfl (by omega) (by omega) dL_law_385 rfl ?_
  refine r_callV (q := 389) (t := 0) (As := [.int (xs (10 * c + 1)), .int (xs (10 * c + 2)), .long ((((xs (10 * c + 3)).toInt64) <<< ((nI 32).toInt64 &&& 63)) ||| (((xs (10 * c + 4)).toInt64) &&& (lN 4294967295))), .long ((((xs (10 * c + 5)).toInt64) <<< ((nI 32).toInt64 &&& 63)) ||| (((xs (10 * c + 6)).toInt64) &&& (lN 4294967295))), .long ((((xs (10 * c + 7)).toInt64) <<< ((nI 32).toInt64 &&& 63)) ||| (((xs (10 * c + 8)).toInt64) &&& (lN 4294967295))), .int (xs (10 * c + 9))]) (st := [.int v8]) C koX8 t0 (pm1) q793 q790 q791 q792 q9 rfl ⟨by decide, by decide⟩ (show (parseMethodDescriptor yX8_ticket.desc).map (fun d => d.parameters.length) = some 6 by decide +kernel) (by decide) (by decide) (by omega) (by omega) (Nat.le_of_ble_eq_true rfl) rfl dL_law_386 rfl ?_
  rintro v9 w2 ⟨rfl, hFin⟩
  show V g k 7 w2 (cells + 7) (slots + 1015) Q 389 [(0, .ref b), (1, .ref a0), (2, .ref m0), (3, .ref ao), (4, .int (nI (10 * c)))] [.int v8, .int v8]
  refine r_icmp_eq_t (tgt := 1010) C dL_law_389 (by decide) (rfl) ?_
  exact r_widen (by omega) (by omega) (kk w2 (pS w1 w2 hMid hFin))

set_option maxHeartbeats 4000000 in
set_option maxRecDepth 20000 in
theorem w_cr {g : cx_G} {k : kx_T} {b L : Nat} {xs : Nat → Int32} {Q : State → Prop} {w : wd_T} {c a0 m0 ao cells slots : Nat} (C : Cx g k RL cL_law 7 ret 19 600288 7293322) (hz : va_T .int b L (fun j => .int (xs j)) (cx_A g) (kxs k) (gH g)) (hL : L ≤ 480) (hi : 10 * c + 10 ≤ L) (hc : c + 1 ≤ 48) (z1 : cells + 7 ≤ 600288) (z2 : slots + 1015 ≤ 7293322) (hS : St9 g w c a0 m0 ao) (kk : ∀ w', St9 g w' (c + 1) a0 m0 ao → V g k 7 w' (cells + 7) (slots + 1015) Q 1010 [(0, .ref b), (1, .ref a0), (2, .ref m0), (3, .ref ao), (4, .int (nI (10 * c)))] []) : V g k 7 w cells slots Q 394 [(0, .ref b), (1, .ref a0), (2, .ref m0), (3, .ref ao), (4, .int (nI (10 * c)))] [] := by
  refine r_aload_n (q := 395) C 1 dL_law_394 rfl rfl ?_
  refine r_aload_n (q := 396) C 0 dL_law_395 rfl rfl ?_
  refine r_iload (q := 398) C 4 dL_law_396 rfl rfl ?_
  refine r_iconst (q := 399) C (nI 1) dL_law_398 (by decide) rfl ?_
  refine r_iadd (q := 400) C dL_law_399 rfl ?_
  refine r_ti (show ((nI (10 * c)) + (nI 1) : Int32) = nI (10 * c + 1) from nI_add (10 * c) 1) ?_
  refine r_siald (q := 401) C hz (10 * c + 1) rfl (by omega) (by omega) dL_law_400 rfl ?_
  refine r_aload_n (q := 402) C 0 dL_law_401 rfl rfl ?_
  refine r_iload (q := 404) C 4 dL_law_402 rfl rfl ?_
  refine r_iconst (q := 405) C (nI 2) dL_law_404 (by decide) rfl ?_
  refine r_iadd (q := 406) C dL_law_405 rfl ?_
  refine r_ti (show ((nI (10 * c)) + (nI 2) : Int32) = nI (10 * c + 2) from nI_add (10 * c) 2) ?_
  refine r_siald (q := 407) C hz (10 * c + 2) rfl (by omega) (by omega) dL_law_406 rfl ?_
  refine r_aload_n (q := 408) C 0 dL_law_407 rfl rfl ?_
  refine r_iload (q := 410) C 4 dL_law_408 rfl rfl ?_
  refine r_iconst (q := 411) C (nI 3) dL_law_410 (by decide) rfl ?_
  refine r_iadd (q := 412) C dL_law_411 rfl ?_
  refine r_ti (show ((nI (10 * c)) + (nI 3) : Int32) = nI (10 * c + 3) from nI_add (10 * c) 3) ?_
  refine r_siald (q := 413) C hz (10 * c + 3) rfl (by omega) (by omega) dL_law_412 rfl ?_
  refine r_i2l (q := 414) C dL_law_413 rfl ?_
  refine r_bipush (q := 416) C (nI 32) dL_law_414 (by decide) rfl ?_
  refine r_lshl (q := 417) C dL_law_416 rfl ?_
  refine r_aload_n (q := 418) C 0 dL_law_417 rfl rfl ?_
  refine r_iload (q := 420) C 4 dL_law_418 rfl rfl ?_
  refine r_iconst (q := 421) C (nI 4) dL_law_420 (by decide) rfl ?_
  refine r_iadd (q := 422) C dL_law_421 rfl ?_
  refine r_ti (show ((nI (10 * c)) + (nI 4) : Int32) = nI (10 * c + 4) from nI_add (10 * c) 4) ?_
  refine r_siald (q := 423) C hz (10 * c + 4) rfl (by omega) (by omega) dL_law_422 rfl ?_
  refine r_i2l (q := 424) C dL_law_423 rfl ?_
  refine r_ldc2 (q := 427) (v := lN 4294967295) C dL_law_424 q931 rfl ?_
  refine r_land (q := 428) C dL_law_427 rfl ?_
  refine r_lor (q := 429) C dL_law_428 rfl ?_
  refine r_aload_n (q := 430) C 0 dL_law_429 rfl rfl ?_
  refine r_iload (q := 432) C 4 dL_law_430 rfl rfl ?_
  refine r_iconst (q := 433) C (nI 5) dL_law_432 (by decide) rfl ?_
  refine r_iadd (q := 434) C dL_law_433 rfl ?_
  refine r_ti (show ((nI (10 * c)) + (nI 5) : Int32) = nI (10 * c + 5) from nI_add (10 * c) 5) ?_
  refine r_siald (q := 435) C hz (10 * c + 5) rfl (by omega) (by omega) dL_law_434 rfl ?_
  obtain ⟨fs0, t100⟩ := hS.t100
  obtain ⟨_, Mid, Fin, ⟨v8, rfl⟩, px, pm, pS⟩ := pr_cr (l := kxl k) hS hc (xs (10 * c + 1)) (xs (10 * c + 2)) ((((xs (10 * c + 3)).toInt64) <<< ((nI 32).toInt64 &&& 63)) ||| (((xs (10 * c + 4)).toInt64) &&& (lN 4294967295))) (xs (10 * c + 5))
  refine r_callV (q := 438) (t := 100) (As := [.int (xs (10 * c + 1)), .int (xs (10 * c + 2)), .long ((((xs (10 * c + 3)).toInt64) <<< ((nI 32).toInt64 &&& 63)) ||| (((xs (10 * c + 4)).toInt64) &&& (lN 4294967295))), .int (xs (10 * c + 5))]) (st := []) C koX7 t100 (px) q404 q401 q402 q403 q1 rfl ⟨by decide, by decide⟩ (show (parseMethodDescriptor yX7_correct.desc).map (fun d => d.parameters.length) = some 4 by decide +kernel) (by decide) (by decide) (by omega) (by omega) (Nat.le_of_ble_eq_true rfl) rfl dL_law_435 rfl ?_
  rintro v9 w1 ⟨rfl, hMid⟩
  obtain ⟨⟨fs1, t0⟩, pm1⟩ := pm w1 hMid
  show V g k 7 w1 (cells + 3) (slots + 536) Q 438 [(0, .ref b), (1, .ref a0), (2, .ref m0), (3, .ref ao), (4, .int (nI (10 * c)))] [.int v8]
  refine r_aload_n (q := 439) C 2 dL_law_438 rfl rfl ?_
  refine r_aload_n (q := 440) C 0 dL_law_439 rfl rfl ?_
  refine r_iload (q := 442) C 4 dL_law_440 rfl rfl ?_
  refine r_iconst (q := 443) C (nI 1) dL_law_442 (by decide) rfl ?_
  refine r_iadd (q := 444) C dL_law_443 rfl ?_
  refine r_ti (show ((nI (10 * c)) + (nI 1) : Int32) = nI (10 * c + 1) from nI_add (10 * c) 1) ?_
  refine r_siald (q := 445) C hz (10 * c + 1) rfl (by omega) (by omega) dL_law_444 rfl ?_
  refine r_aload_n (q := 446) C 0 dL_law_445 rfl rfl ?_
  refine r_iload (q := 448) C 4 dL_law_446 rfl rfl ?_
  refine r_iconst (q := 449) C (nI 2) dL_law_448 (by decide) rfl ?_
  refine r_iadd (q := 450) C dL_law_449 rfl ?_
  refine r_ti (show ((nI (10 * c)) + (nI 2) : Int32) = nI (10 * c + 2) from nI_add (10 * c) 2) ?_
  refine r_siald (q := 451) C hz (10 * c + 2) rfl (by omega) (by omega) dL_law_450 rfl ?_
  refine r_aload_n (q := 452) C 0 dL_law_451 rfl rfl ?_
  refine r_iload (q := 454) C 4 dL_law_452 rfl rfl ?_
  refine r_iconst (q := 455) C (nI 3) dL_law_454 (by decide) rfl ?_
  refine r_iadd (q := 456) C dL_law_455 rfl ?_
  refine r_ti (show ((nI (10 * c)) + (nI 3) : Int32) = nI (10 * c + 3) from nI_add (10 * c) 3) ?_
  refine r_siald (q := 457) C hz (10 * c + 3) rfl (by omega) (by omega) dL_law_456 rfl ?_
  refine r_i2l (q := 458) C dL_law_457 rfl ?_
  refine r_bipush (q := 460) C (nI 32) dL_law_458 (by decide) rfl ?_
  refine r_lshl (q := 461) C dL_law_460 rfl ?_
  refine r_aload_n (q := 462) C 0 dL_law_461 rfl rfl ?_
  refine r_iload (q := 464) C 4 dL_law_462 rfl rfl ?_
  refine r_iconst (q := 465) C (nI 4) dL_law_464 (by decide) rfl ?_
  refine r_iadd (q := 466) C dL_law_465 rfl ?_
  refine r_ti (show ((nI (10 * c)) + (nI 4) : Int32) = nI (10 * c + 4) from nI_add (10 * c) 4) ?_
  refine r_siald (q := 467) C hz (10 * c + 4) rfl (by omega) (by omega) dL_law_466 rfl ?_
  refine r_i2l (q := 468) C dL_law_467 rfl ?_
  refine r_ldc2 (q := 471) (v := lN 4294967295) C dL_law_468 q931 rfl ?_
  refine r_land (q := 472) C dL_law_471 rfl ?_
  refine r_lor (q := 473) C dL_law_472 rfl ?_
  refine r_aload_n (q := 474) C 0 dL_law_473 rfl rfl ?_
  refine r_iload (q := 476) C 4 dL_law_474 rfl rfl ?_
  refine r_iconst (q := 477) C (nI 5) dL_law_476 (by decide) rfl ?_
  refine r_iadd (q := 478) C dL_law_477 rfl ?_
  refine r_ti (show ((nI (10 * c)) + (nI 5) : Int32) = nI (10 * c + 5) from nI_add (10 * c) 5) ?_
  refine r_siald (q := 479) C hz (10 * c + 5) rfl (by omega) (by omega) dL_law_478 rfl ?_
  refine r_callV (q := 482) (t := 0) (As := [.int (xs (10 * c + 1)), .int (xs (10 * c + 2)), .long ((((xs (10 * c + 3)).toInt64) <<< ((nI 32).toInt64 &&& 63)) ||| (((xs (10 * c + 4)).toInt64) &&& (lN 4294967295))), .int (xs (10 * c + 5))]) (st := [.int v8]) C koX8 t0 (pm1) q843 q840 q841 q842 q9 rfl ⟨by decide, by decide⟩ (show (parseMethodDescriptor yX8_correct.desc).map (fun d => d.parameters.length) = some 4 by decide +kernel) (by decide) (by decide) (by omega) (by omega) (Nat.le_of_ble_eq_true rfl) rfl dL_law_479 rfl ?_
  rintro v9 w2 ⟨rfl, hFin⟩
  show V g k 7 w2 (cells + 3) (slots + 536) Q 482 [(0, .ref b), (1, .ref a0), (2, .ref m0), (3, .ref ao), (4, .int (nI (10 * c)))] [.int v8, .int v8]
  refine r_icmp_eq_t (tgt := 1010) C dL_law_482 (by decide) (rfl) ?_
  exact r_widen (by omega) (by omega) (kk w2 (pS w1 w2 hMid hFin))

set_option maxHeartbeats 4000000 in
set_option maxRecDepth 20000 in
theorem w_vd {g : cx_G} {k : kx_T} {b L : Nat} {xs : Nat → Int32} {Q : State → Prop} {w : wd_T} {c a0 m0 ao cells slots : Nat} (C : Cx g k RL cL_law 7 ret 19 600288 7293322) (hz : va_T .int b L (fun j => .int (xs j)) (cx_A g) (kxs k) (gH g)) (hL : L ≤ 480) (hi : 10 * c + 10 ≤ L) (hc : c + 1 ≤ 48) (z1 : cells + 7 ≤ 600288) (z2 : slots + 1015 ≤ 7293322) (hS : St9 g w c a0 m0 ao) (kk : ∀ w', St9 g w' (c + 1) a0 m0 ao → V g k 7 w' (cells + 7) (slots + 1015) Q 1010 [(0, .ref b), (1, .ref a0), (2, .ref m0), (3, .ref ao), (4, .int (nI (10 * c)))] []) : V g k 7 w cells slots Q 487 [(0, .ref b), (1, .ref a0), (2, .ref m0), (3, .ref ao), (4, .int (nI (10 * c)))] [] := by
  refine r_aload_n (q := 488) C 1 dL_law_487 rfl rfl ?_
  refine r_aload_n (q := 489) C 0 dL_law_488 rfl rfl ?_
  refine r_iload (q := 491) C 4 dL_law_489 rfl rfl ?_
  refine r_iconst (q := 492) C (nI 1) dL_law_491 (by decide) rfl ?_
  refine r_iadd (q := 493) C dL_law_492 rfl ?_
  refine r_ti (show ((nI (10 * c)) + (nI 1) : Int32) = nI (10 * c + 1) from nI_add (10 * c) 1) ?_
  refine r_siald (q := 494) C hz (10 * c + 1) rfl (by omega) (by omega) dL_law_493 rfl ?_
  refine r_aload_n (q := 495) C 0 dL_law_494 rfl rfl ?_
  refine r_iload (q := 497) C 4 dL_law_495 rfl rfl ?_
  refine r_iconst (q := 498) C (nI 2) dL_law_497 (by decide) rfl ?_
  refine r_iadd (q := 499) C dL_law_498 rfl ?_
  refine r_ti (show ((nI (10 * c)) + (nI 2) : Int32) = nI (10 * c + 2) from nI_add (10 * c) 2) ?_
  refine r_siald (q := 500) C hz (10 * c + 2) rfl (by omega) (by omega) dL_law_499 rfl ?_
  obtain ⟨fs0, t100⟩ := hS.t100
  obtain ⟨_, Mid, Fin, ⟨v8, rfl⟩, px, pm, pS⟩ := pr_vd (l := kxl k) hS hc (xs (10 * c + 1)) (xs (10 * c + 2))
  refine r_callV (q := 503) (t := 100) (As := [.int (xs (10 * c + 1)), .int (xs (10 * c + 2))]) (st := []) C koX7 t100 (px) q429 q426 q427 q428 q1 rfl ⟨by decide, by decide⟩ (show (parseMethodDescriptor yX7_voids.desc).map (fun d => d.parameters.length) = some 2 by decide +kernel) (by decide) (by decide) (by omega) (by omega) (Nat.le_of_ble_eq_true rfl) rfl dL_law_500 rfl ?_
  rintro v9 w1 ⟨rfl, hMid⟩
  obtain ⟨⟨fs1, t0⟩, pm1⟩ := pm w1 hMid
  show V g k 7 w1 (cells + 3) (slots + 536) Q 503 [(0, .ref b), (1, .ref a0), (2, .ref m0), (3, .ref ao), (4, .int (nI (10 * c)))] [.int v8]
  refine r_aload_n (q := 504) C 2 dL_law_503 rfl rfl ?_
  refine r_aload_n (q := 505) C 0 dL_law_504 rfl rfl ?_
  refine r_iload (q := 507) C 4 dL_law_505 rfl rfl ?_
  refine r_iconst (q := 508) C (nI 1) dL_law_507 (by decide) rfl ?_
  refine r_iadd (q := 509) C dL_law_508 rfl ?_
  refine r_ti (show ((nI (10 * c)) + (nI 1) : Int32) = nI (10 * c + 1) from nI_add (10 * c) 1) ?_
  refine r_siald (q := 510) C hz (10 * c + 1) rfl (by omega) (by omega) dL_law_509 rfl ?_
  refine r_aload_n (q := 511) C 0 dL_law_510 rfl rfl ?_
  refine r_iload (q := 513) C 4 dL_law_511 rfl rfl ?_
  refine r_iconst (q := 514) C (nI 2) dL_law_513 (by decide) rfl ?_
  refine r_iadd (q := 515) C dL_law_514 rfl ?_
  refine r_ti (show ((nI (10 * c)) + (nI 2) : Int32) = nI (10 * c + 2) from nI_add (10 * c) 2) ?_
  refine r_siald (q := 516) C hz (10 * c + 2) rfl (by omega) (by omega) dL_law_515 rfl ?_
  refine r_callV (q := 519) (t := 0) (As := [.int (xs (10 * c + 1)), .int (xs (10 * c + 2))]) (st := [.int v8]) C koX8 t0 (pm1) q855 q852 q853 q854 q9 rfl ⟨by decide, by decide⟩ (show (parseMethodDescriptor yX8_voids.desc).map (fun d => d.parameters.length) = some 2 by decide +kernel) (by decide) (by decide) (by omega) (by omega) (Nat.le_of_ble_eq_true rfl) rfl dL_law_516 rfl ?_
  rintro v9 w2 ⟨rfl, hFin⟩
  show V g k 7 w2 (cells + 3) (slots + 536) Q 519 [(0, .ref b), (1, .ref a0), (2, .ref m0), (3, .ref ao), (4, .int (nI (10 * c)))] [.int v8, .int v8]
  refine r_icmp_eq_t (tgt := 1010) C dL_law_519 (by decide) (rfl) ?_
  exact r_widen (by omega) (by omega) (kk w2 (pS w1 w2 hMid hFin))

set_option maxHeartbeats 4000000 in
set_option maxRecDepth 20000 in
theorem w_at {g : cx_G} {k : kx_T} {b L : Nat} {xs : Nat → Int32} {Q : State → Prop} {w : wd_T} {c a0 m0 ao cells slots : Nat} (C : Cx g k RL cL_law 7 ret 19 600288 7293322) (hz : va_T .int b L (fun j => .int (xs j)) (cx_A g) (kxs k) (gH g)) (hL : L ≤ 480) (hi : 10 * c + 10 ≤ L) (hc : c + 1 ≤ 48) (z1 : cells + 7 ≤ 600288) (z2 : slots + 1015 ≤ 7293322) (hS : St9 g w c a0 m0 ao) (kk : ∀ w', St9 g w' (c + 1) a0 m0 ao → V g k 7 w' (cells + 7) (slots + 1015) Q 1010 [(0, .ref b), (1, .ref a0), (2, .ref m0), (3, .ref ao), (4, .int (nI (10 * c)))] []) : V g k 7 w cells slots Q 524 [(0, .ref b), (1, .ref a0), (2, .ref m0), (3, .ref ao), (4, .int (nI (10 * c)))] [] := by
  refine r_aload_n (q := 525) C 1 dL_law_524 rfl rfl ?_
  refine r_aload_n (q := 526) C 0 dL_law_525 rfl rfl ?_
  refine r_iload (q := 528) C 4 dL_law_526 rfl rfl ?_
  refine r_iconst (q := 529) C (nI 1) dL_law_528 (by decide) rfl ?_
  refine r_iadd (q := 530) C dL_law_529 rfl ?_
  refine r_ti (show ((nI (10 * c)) + (nI 1) : Int32) = nI (10 * c + 1) from nI_add (10 * c) 1) ?_
  refine r_siald (q := 531) C hz (10 * c + 1) rfl (by omega) (by omega) dL_law_530 rfl ?_
  refine r_aload_n (q := 532) C 0 dL_law_531 rfl rfl ?_
  refine r_iload (q := 534) C 4 dL_law_532 rfl rfl ?_
  refine r_iconst (q := 535) C (nI 2) dL_law_534 (by decide) rfl ?_
  refine r_iadd (q := 536) C dL_law_535 rfl ?_
  refine r_ti (show ((nI (10 * c)) + (nI 2) : Int32) = nI (10 * c + 2) from nI_add (10 * c) 2) ?_
  refine r_siald (q := 537) C hz (10 * c + 2) rfl (by omega) (by omega) dL_law_536 rfl ?_
  obtain ⟨fs0, t100⟩ := hS.t100
  obtain ⟨_, Mid, Fin, ⟨v8, rfl⟩, px, pm, pS⟩ := pr_at (l := kxl k) hS hc (xs (10 * c + 1)) (xs (10 * c + 2))
  refine r_callV (q := 540) (t := 100) (As := [.int (xs (10 * c + 1)), .int (xs (10 * c + 2))]) (st := []) C koX7 t100 (px) q437 q434 q435 q436 q1 rfl ⟨by decide, by decide⟩ (show (parseMethodDescriptor yX7_at.desc).map (fun d => d.parameters.length) = some 2 by decide +kernel) (by decide) (by decide) (by omega) (by omega) (Nat.le_of_ble_eq_true rfl) rfl dL_law_537 rfl ?_
  rintro v9 w1 ⟨rfl, hMid⟩
  obtain ⟨⟨fs1, t0⟩, pm1⟩ := pm w1 hMid
  show V g k 7 w1 cells slots Q 540 [(0, .ref b), (1, .ref a0), (2, .ref m0), (3, .ref ao), (4, .int (nI (10 * c)))] [.long v8]
  refine r_aload_n (q := 541) C 2 dL_law_540 rfl rfl ?_
  refine r_aload_n (q := 542) C 0 dL_law_541 rfl rfl ?_
  refine r_iload (q := 544) C 4 dL_law_542 rfl rfl ?_
  refine r_iconst (q := 545) C (nI 1) dL_law_544 (by decide) rfl ?_
  refine r_iadd (q := 546) C dL_law_545 rfl ?_
  refine r_ti (show ((nI (10 * c)) + (nI 1) : Int32) = nI (10 * c + 1) from nI_add (10 * c) 1) ?_
  refine r_siald (q := 547) C hz (10 * c + 1) rfl (by omega) (by omega) dL_law_546 rfl ?_
  refine r_aload_n (q := 548) C 0 dL_law_547 rfl rfl ?_
  refine r_iload (q := 550) C 4 dL_law_548 rfl rfl ?_
  refine r_iconst (q := 551) C (nI 2) dL_law_550 (by decide) rfl ?_
  refine r_iadd (q := 552) C dL_law_551 rfl ?_
  refine r_ti (show ((nI (10 * c)) + (nI 2) : Int32) = nI (10 * c + 2) from nI_add (10 * c) 2) ?_
  refine r_siald (q := 553) C hz (10 * c + 2) rfl (by omega) (by omega) dL_law_552 rfl ?_
  refine r_callV (q := 556) (t := 0) (As := [.int (xs (10 * c + 1)), .int (xs (10 * c + 2))]) (st := [.long v8]) C koX8 t0 (pm1) q859 q856 q857 q858 q9 rfl ⟨by decide, by decide⟩ (show (parseMethodDescriptor yX8_at.desc).map (fun d => d.parameters.length) = some 2 by decide +kernel) (by decide) (by decide) (by omega) (by omega) (Nat.le_of_ble_eq_true rfl) rfl dL_law_553 rfl ?_
  rintro v9 w2 ⟨rfl, hFin⟩
  show V g k 7 w2 cells slots Q 556 [(0, .ref b), (1, .ref a0), (2, .ref m0), (3, .ref ao), (4, .int (nI (10 * c)))] [.long v8, .long v8]
  refine r_lcmp_eq (q := 557) (q2 := 560) (tgt := 1010) C dL_law_556 rfl dL_law_557 (by decide) rfl (fun _ => ?_) (fun hz3 => absurd (rfl) (by first | exact hz3 | exact fun zz => zz hz3))
  exact r_widen (by omega) (by omega) (kk w2 (pS w1 w2 hMid hFin))

set_option maxHeartbeats 4000000 in
set_option maxRecDepth 20000 in
theorem w_num {g : cx_G} {k : kx_T} {b L : Nat} {xs : Nat → Int32} {Q : State → Prop} {w : wd_T} {c a0 m0 ao cells slots : Nat} (C : Cx g k RL cL_law 7 ret 19 600288 7293322) (hz : va_T .int b L (fun j => .int (xs j)) (cx_A g) (kxs k) (gH g)) (hL : L ≤ 480) (hi : 10 * c + 10 ≤ L) (hc : c + 1 ≤ 48) (z1 : cells + 7 ≤ 600288) (z2 : slots + 1015 ≤ 7293322) (hS : St9 g w c a0 m0 ao) (kk : ∀ w', St9 g w' (c + 1) a0 m0 ao → V g k 7 w' (cells + 7) (slots + 1015) Q 1010 [(0, .ref b), (1, .ref a0), (2, .ref m0), (3, .ref ao), (4, .int (nI (10 * c)))] []) : V g k 7 w cells slots Q 562 [(0, .ref b), (1, .ref a0), (2, .ref m0), (3, .ref ao), (4, .int (nI (10 * c)))] [] := by
  refine r_aload_n (q := 563) C 1 dL_law_562 rfl rfl ?_
  refine r_aload_n (q := 564) C 0 dL_law_563 rfl rfl ?_
  refine r_iload (q := 566) C 4 dL_law_564 rfl rfl ?_
  refine r_iconst (q := 567) C (nI 1) dL_law_566 (by decide) rfl ?_
  refine r_iadd (q := 568) C dL_law_567 rfl ?_
  refine r_ti (show ((nI (10 * c)) + (nI 1) : Int32) = nI (10 * c + 1) from nI_add (10 * c) 1) ?_
  refine r_siald (q := 569) C hz (10 * c + 1) rfl (by omega) (by omega) dL_law_568 rfl ?_
  obtain ⟨fs0, t100⟩ := hS.t100
  obtain ⟨_, Mid, Fin, ⟨v8, rfl⟩, px, pm, pS⟩ := pr_num (l := kxl k) hS hc (xs (10 * c + 1))
  refine r_callV (q := 572) (t := 100) (As := [.int (xs (10 * c + 1))]) (st := []) C koX7 t100 (px) q441 q438 q439 q440 q1 rfl ⟨by decide, by decide⟩ (show (parseMethodDescriptor yX7_number.desc).map (fun d => d.parameters.length) = some 1 by decide +kernel) (by decide) (by decide) (by omega) (by omega) (Nat.le_of_ble_eq_true rfl) rfl dL_law_569 rfl ?_
  rintro v9 w1 ⟨rfl, hMid⟩
  obtain ⟨⟨fs1, t0⟩, pm1⟩ := pm w1 hMid
  show V g k 7 w1 cells slots Q 572 [(0, .ref b), (1, .ref a0), (2, .ref m0), (3, .ref ao), (4, .int (nI (10 * c)))] [.int v8]
  refine r_aload_n (q := 573) C 2 dL_law_572 rfl rfl ?_
  refine r_aload_n (q := 574) C 0 dL_law_573 rfl rfl ?_
  refine r_iload (q := 576) C 4 dL_law_574 rfl rfl ?_
  refine r_iconst (q := 577) C (nI 1) dL_law_576 (by decide) rfl ?_
  refine r_iadd (q := 578) C dL_law_577 rfl ?_
  refine r_ti (show ((nI (10 * c)) + (nI 1) : Int32) = nI (10 * c + 1) from nI_add (10 * c) 1) ?_
  refine r_siald (q := 579) C hz (10 * c + 1) rfl (by omega) (by omega) dL_law_578 rfl ?_
  refine r_callV (q := 582) (t := 0) (As := [.int (xs (10 * c + 1))]) (st := [.int v8]) C koX8 t0 (pm1) q863 q860 q861 q862 q9 rfl ⟨by decide, by decide⟩ (show (parseMethodDescriptor yX8_number.desc).map (fun d => d.parameters.length) = some 1 by decide +kernel) (by decide) (by decide) (by omega) (by omega) (Nat.le_of_ble_eq_true rfl) rfl dL_law_579 rfl ?_
  rintro v9 w2 ⟨rfl, hFin⟩
  show V g k 7 w2 cells slots Q 582 [(0, .ref b), (1, .ref a0), (2, .ref m0), (3, .ref ao), (4, .int (nI (10 * c)))] [.int v8, .int v8]
  refine r_icmp_eq_t (tgt := 1010) C dL_law_582 (by decide) (rfl) ?_
  exact r_widen (by omega) (by omega) (kk w2 (pS w1 w2 hMid hFin))

set_option maxHeartbeats 4000000 in
set_option maxRecDepth 20000 in
theorem w_gap {g : cx_G} {k : kx_T} {b L : Nat} {xs : Nat → Int32} {Q : State → Prop} {w : wd_T} {c a0 m0 ao cells slots : Nat} (C : Cx g k RL cL_law 7 ret 19 600288 7293322) (hz : va_T .int b L (fun j => .int (xs j)) (cx_A g) (kxs k) (gH g)) (hL : L ≤ 480) (hi : 10 * c + 10 ≤ L) (hc : c + 1 ≤ 48) (z1 : cells + 7 ≤ 600288) (z2 : slots + 1015 ≤ 7293322) (hS : St9 g w c a0 m0 ao) (kk : ∀ w', St9 g w' (c + 1) a0 m0 ao → V g k 7 w' (cells + 7) (slots + 1015) Q 1010 [(0, .ref b), (1, .ref a0), (2, .ref m0), (3, .ref ao), (4, .int (nI (10 * c)))] []) : V g k 7 w cells slots Q 587 [(0, .ref b), (1, .ref a0), (2, .ref m0), (3, .ref ao), (4, .int (nI (10 * c)))] [] := by
  refine r_aload_n (q := 588) C 1 dL_law_587 rfl rfl ?_
  refine r_aload_n (q := 589) C 0 dL_law_588 rfl rfl ?_
  refine r_iload (q := 591) C 4 dL_law_589 rfl rfl ?_
  refine r_iconst (q := 592) C (nI 1) dL_law_591 (by decide) rfl ?_
  refine r_iadd (q := 593) C dL_law_592 rfl ?_
  refine r_ti (show ((nI (10 * c)) + (nI 1) : Int32) = nI (10 * c + 1) from nI_add (10 * c) 1) ?_
  refine r_siald (q := 594) C hz (10 * c + 1) rfl (by omega) (by omega) dL_law_593 rfl ?_
  obtain ⟨fs0, t100⟩ := hS.t100
  obtain ⟨_, Mid, Fin, ⟨v8, rfl⟩, px, pm, pS⟩ := pr_gap (l := kxl k) hS hc (xs (10 * c + 1))
  refine r_callV (q := 597) (t := 100) (As := [.int (xs (10 * c + 1))]) (st := []) C koX7 t100 (px) q445 q442 q443 q444 q1 rfl ⟨by decide, by decide⟩ (show (parseMethodDescriptor yX7_gap.desc).map (fun d => d.parameters.length) = some 1 by decide +kernel) (by decide) (by decide) (by omega) (by omega) (Nat.le_of_ble_eq_true rfl) rfl dL_law_594 rfl ?_
  rintro v9 w1 ⟨rfl, hMid⟩
  obtain ⟨⟨fs1, t0⟩, pm1⟩ := pm w1 hMid
  show V g k 7 w1 cells slots Q 597 [(0, .ref b), (1, .ref a0), (2, .ref m0), (3, .ref ao), (4, .int (nI (10 * c)))] [.int v8]
  refine r_aload_n (q := 598) C 2 dL_law_597 rfl rfl ?_
  refine r_aload_n (q := 599) C 0 dL_law_598 rfl rfl ?_
  refine r_iload (q := 601) C 4 dL_law_599 rfl rfl ?_
  refine r_iconst (q := 602) C (nI 1) dL_law_601 (by decide) rfl ?_
  refine r_iadd (q := 603) C dL_law_602 rfl ?_
  refine r_ti (show ((nI (10 * c)) + (nI 1) : Int32) = nI (10 * c + 1) from nI_add (10 * c) 1) ?_
  refine r_siald (q := 604) C hz (10 * c + 1) rfl (by omega) (by omega) dL_law_603 rfl ?_
  refine r_callV (q := 607) (t := 0) (As := [.int (xs (10 * c + 1))]) (st := [.int v8]) C koX8 t0 (pm1) q867 q864 q865 q866 q9 rfl ⟨by decide, by decide⟩ (show (parseMethodDescriptor yX8_gap.desc).map (fun d => d.parameters.length) = some 1 by decide +kernel) (by decide) (by decide) (by omega) (by omega) (Nat.le_of_ble_eq_true rfl) rfl dL_law_604 rfl ?_
  rintro v9 w2 ⟨rfl, hFin⟩
  show V g k 7 w2 cells slots Q 607 [(0, .ref b), (1, .ref a0), (2, .ref m0), (3, .ref ao), (4, .int (nI (10 * c)))] [.int v8, .int v8]
  refine r_icmp_eq_t (tgt := 1010) C dL_law_607 (by decide) (rfl) ?_
  exact r_widen (by omega) (by omega) (kk w2 (pS w1 w2 hMid hFin))

set_option maxHeartbeats 4000000 in
set_option maxRecDepth 20000 in
theorem w_rows {g : cx_G} {k : kx_T} {b L : Nat} {xs : Nat → Int32} {Q : State → Prop} {w : wd_T} {c a0 m0 ao cells slots : Nat} (C : Cx g k RL cL_law 7 ret 19 600288 7293322) (hz : va_T .int b L (fun j => .int (xs j)) (cx_A g) (kxs k) (gH g)) (hL : L ≤ 480) (hi : 10 * c + 10 ≤ L) (hc : c + 1 ≤ 48) (z1 : cells + 7 ≤ 600288) (z2 : slots + 1015 ≤ 7293322) (hS : St9 g w c a0 m0 ao) (kk : ∀ w', St9 g w' (c + 1) a0 m0 ao → V g k 7 w' (cells + 7) (slots + 1015) Q 1010 [(0, .ref b), (1, .ref a0), (2, .ref m0), (3, .ref ao), (4, .int (nI (10 * c)))] []) : V g k 7 w cells slots Q 612 [(0, .ref b), (1, .ref a0), (2, .ref m0), (3, .ref ao), (4, .int (nI (10 * c)))] [] := by
  refine r_aload_n (q := 613) C 1 dL_law_612 rfl rfl ?_
  obtain ⟨fs0, t100⟩ := hS.t100
  obtain ⟨_, Mid, Fin, ⟨v8, rfl⟩, px, pm, pS⟩ := pr_rows (l := kxl k) hS hc 
  refine r_callV (q := 616) (t := 100) (As := []) (st := []) C koX7 t100 (px) q449 q446 q447 q448 q1 rfl ⟨by decide, by decide⟩ (show (parseMethodDescriptor yX7_rows.desc).map (fun d => d.parameters.length) = some 0 by decide +kernel) (by decide) (by decide) (by omega) (by omega) (Nat.le_of_ble_eq_true rfl) rfl dL_law_613 rfl ?_
  rintro v9 w1 ⟨rfl, hMid⟩
  obtain ⟨⟨fs1, t0⟩, pm1⟩ := pm w1 hMid
  show V g k 7 w1 cells slots Q 616 [(0, .ref b), (1, .ref a0), (2, .ref m0), (3, .ref ao), (4, .int (nI (10 * c)))] [.int v8]
  refine r_aload_n (q := 617) C 2 dL_law_616 rfl rfl ?_
  refine r_callV (q := 620) (t := 0) (As := []) (st := [.int v8]) C koX8 t0 (pm1) q871 q868 q869 q870 q9 rfl ⟨by decide, by decide⟩ (show (parseMethodDescriptor yX8_rows.desc).map (fun d => d.parameters.length) = some 0 by decide +kernel) (by decide) (by decide) (by omega) (by omega) (Nat.le_of_ble_eq_true rfl) rfl dL_law_617 rfl ?_
  rintro v9 w2 ⟨rfl, hFin⟩
  show V g k 7 w2 cells slots Q 620 [(0, .ref b), (1, .ref a0), (2, .ref m0), (3, .ref ao), (4, .int (nI (10 * c)))] [.int v8, .int v8]
  refine r_icmp_eq_t (tgt := 1010) C dL_law_620 (by decide) (rfl) ?_
  exact r_widen (by omega) (by omega) (kk w2 (pS w1 w2 hMid hFin))

set_option maxHeartbeats 4000000 in
set_option maxRecDepth 20000 in
theorem w_made {g : cx_G} {k : kx_T} {b L : Nat} {xs : Nat → Int32} {Q : State → Prop} {w : wd_T} {c a0 m0 ao cells slots : Nat} (C : Cx g k RL cL_law 7 ret 19 600288 7293322) (hz : va_T .int b L (fun j => .int (xs j)) (cx_A g) (kxs k) (gH g)) (hL : L ≤ 480) (hi : 10 * c + 10 ≤ L) (hc : c + 1 ≤ 48) (z1 : cells + 7 ≤ 600288) (z2 : slots + 1015 ≤ 7293322) (hS : St9 g w c a0 m0 ao) (kk : ∀ w', St9 g w' (c + 1) a0 m0 ao → V g k 7 w' (cells + 7) (slots + 1015) Q 1010 [(0, .ref b), (1, .ref a0), (2, .ref m0), (3, .ref ao), (4, .int (nI (10 * c)))] []) : V g k 7 w cells slots Q 625 [(0, .ref b), (1, .ref a0), (2, .ref m0), (3, .ref ao), (4, .int (nI (10 * c)))] [] := by
  refine r_aload_n (q := 626) C 1 dL_law_625 rfl rfl ?_
  obtain ⟨fs0, t100⟩ := hS.t100
  obtain ⟨_, Mid, Fin, ⟨v8, rfl⟩, px, pm, pS⟩ := pr_made (l := kxl k) hS hc 
  refine r_callV (q := 629) (t := 100) (As := []) (st := []) C koX7 t100 (px) q457 q454 q455 q456 q1 rfl ⟨by decide, by decide⟩ (show (parseMethodDescriptor yX7_made.desc).map (fun d => d.parameters.length) = some 0 by decide +kernel) (by decide) (by decide) (by omega) (by omega) (Nat.le_of_ble_eq_true rfl) rfl dL_law_626 rfl ?_
  rintro v9 w1 ⟨rfl, hMid⟩
  obtain ⟨⟨fs1, t0⟩, pm1⟩ := pm w1 hMid
  show V g k 7 w1 cells slots Q 629 [(0, .ref b), (1, .ref a0), (2, .ref m0), (3, .ref ao), (4, .int (nI (10 * c)))] [.int v8]
  refine r_aload_n (q := 630) C 2 dL_law_629 rfl rfl ?_
  refine r_callV (q := 633) (t := 0) (As := []) (st := [.int v8]) C koX8 t0 (pm1) q875 q872 q873 q874 q9 rfl ⟨by decide, by decide⟩ (show (parseMethodDescriptor yX8_made.desc).map (fun d => d.parameters.length) = some 0 by decide +kernel) (by decide) (by decide) (by omega) (by omega) (Nat.le_of_ble_eq_true rfl) rfl dL_law_630 rfl ?_
  rintro v9 w2 ⟨rfl, hFin⟩
  show V g k 7 w2 cells slots Q 633 [(0, .ref b), (1, .ref a0), (2, .ref m0), (3, .ref ao), (4, .int (nI (10 * c)))] [.int v8, .int v8]
  refine r_icmp_eq_t (tgt := 1010) C dL_law_633 (by decide) (rfl) ?_
  exact r_widen (by omega) (by omega) (kk w2 (pS w1 w2 hMid hFin))

set_option maxHeartbeats 4000000 in
set_option maxRecDepth 20000 in
theorem w_spl {g : cx_G} {k : kx_T} {b L : Nat} {xs : Nat → Int32} {Q : State → Prop} {w : wd_T} {c a0 m0 ao cells slots : Nat} (C : Cx g k RL cL_law 7 ret 19 600288 7293322) (hz : va_T .int b L (fun j => .int (xs j)) (cx_A g) (kxs k) (gH g)) (hL : L ≤ 480) (hi : 10 * c + 10 ≤ L) (hc : c + 1 ≤ 48) (z1 : cells + 7 ≤ 600288) (z2 : slots + 1015 ≤ 7293322) (hS : St9 g w c a0 m0 ao) (kk : ∀ w', St9 g w' (c + 1) a0 m0 ao → V g k 7 w' (cells + 7) (slots + 1015) Q 1010 [(0, .ref b), (1, .ref a0), (2, .ref m0), (3, .ref ao), (4, .int (nI (10 * c)))] []) : V g k 7 w cells slots Q 638 [(0, .ref b), (1, .ref a0), (2, .ref m0), (3, .ref ao), (4, .int (nI (10 * c)))] [] := by
  refine r_aload_n (q := 639) C 1 dL_law_638 rfl rfl ?_
  refine r_aload_n (q := 640) C 0 dL_law_639 rfl rfl ?_
  refine r_iload (q := 642) C 4 dL_law_640 rfl rfl ?_
  refine r_iconst (q := 643) C (nI 1) dL_law_642 (by decide) rfl ?_
  refine r_iadd (q := 644) C dL_law_643 rfl ?_
  refine r_ti (show ((nI (10 * c)) + (nI 1) : Int32) = nI (10 * c + 1) from nI_add (10 * c) 1) ?_
  refine r_siald (q := 645) C hz (10 * c + 1) rfl (by omega) (by omega) dL_law_644 rfl ?_
  refine r_aload_n (q := 646) C 0 dL_law_645 rfl rfl ?_
  refine r_iload (q := 648) C 4 dL_law_646 rfl rfl ?_
  refine r_iconst (q := 649) C (nI 2) dL_law_648 (by decide) rfl ?_
  refine r_iadd (q := 650) C dL_law_649 rfl ?_
  refine r_ti (show ((nI (10 * c)) + (nI 2) : Int32) = nI (10 * c + 2) from nI_add (10 * c) 2) ?_
  refine r_siald (q := 651) C hz (10 * c + 2) rfl (by omega) (by omega) dL_law_650 rfl ?_
  refine r_aload_n (q := 652) C 0 dL_law_651 rfl rfl ?_
  refine r_iload (q := 654) C 4 dL_law_652 rfl rfl ?_
  refine r_iconst (q := 655) C (nI 3) dL_law_654 (by decide) rfl ?_
  refine r_iadd (q := 656) C dL_law_655 rfl ?_
  refine r_ti (show ((nI (10 * c)) + (nI 3) : Int32) = nI (10 * c + 3) from nI_add (10 * c) 3) ?_
  refine r_siald (q := 657) C hz (10 * c + 3) rfl (by omega) (by omega) dL_law_656 rfl ?_
  refine r_i2l (q := 658) C dL_law_657 rfl ?_
  refine r_bipush (q := 660) C (nI 32) dL_law_658 (by decide) rfl ?_
  refine r_lshl (q := 661) C dL_law_660 rfl ?_
  refine r_aload_n (q := 662) C 0 dL_law_661 rfl rfl ?_
  refine r_iload (q := 664) C 4 dL_law_662 rfl rfl ?_
  refine r_iconst (q := 665) C (nI 4) dL_law_664 (by decide) rfl ?_
  refine r_iadd (q := 666) C dL_law_665 rfl ?_
  refine r_ti (show ((nI (10 * c)) + (nI 4) : Int32) = nI (10 * c + 4) from nI_add (10 * c) 4) ?_
  refine r_siald (q := 667) C hz (10 * c + 4) rfl (by omega) (by omega) dL_law_666 rfl ?_
  refine r_i2l (q := 668) C dL_law_667 rfl ?_
  refine r_ldc2 (q := 671) (v := lN 4294967295) C dL_law_668 q931 rfl ?_
  refine r_land (q := 672) C dL_law_671 rfl ?_
  refine r_lor (q := 673) C dL_law_672 rfl ?_
  obtain ⟨fs0, t100⟩ := hS.t100
  obtain ⟨_, Mid, Fin, ⟨v8, rfl⟩, px, pm, pS⟩ := pr_spl (l := kxl k) hS hc (xs (10 * c + 1)) (xs (10 * c + 2)) ((((xs (10 * c + 3)).toInt64) <<< ((nI 32).toInt64 &&& 63)) ||| (((xs (10 * c + 4)).toInt64) &&& (lN 4294967295)))
  refine r_callV (q := 676) (t := 100) (As := [.int (xs (10 * c + 1)), .int (xs (10 * c + 2)), .long ((((xs (10 * c + 3)).toInt64) <<< ((nI 32).toInt64 &&& 63)) ||| (((xs (10 * c + 4)).toInt64) &&& (lN 4294967295)))]) (st := []) C koX7 t100 (px) q461 q458 q459 q460 q1 rfl ⟨by decide, by decide⟩ (show (parseMethodDescriptor yX7_split.desc).map (fun d => d.parameters.length) = some 3 by decide +kernel) (by decide) (by decide) (by omega) (by omega) (Nat.le_of_ble_eq_true rfl) rfl dL_law_673 rfl ?_
  rintro v9 w1 ⟨rfl, hMid⟩
  obtain ⟨⟨fs1, t0⟩, pm1⟩ := pm w1 hMid
  show V g k 7 w1 cells slots Q 676 [(0, .ref b), (1, .ref a0), (2, .ref m0), (3, .ref ao), (4, .int (nI (10 * c)))] [.int v8]
  refine r_aload_n (q := 677) C 2 dL_law_676 rfl rfl ?_
  refine r_aload_n (q := 678) C 0 dL_law_677 rfl rfl ?_
  refine r_iload (q := 680) C 4 dL_law_678 rfl rfl ?_
  refine r_iconst (q := 681) C (nI 1) dL_law_680 (by decide) rfl ?_
  refine r_iadd (q := 682) C dL_law_681 rfl ?_
  refine r_ti (show ((nI (10 * c)) + (nI 1) : Int32) = nI (10 * c + 1) from nI_add (10 * c) 1) ?_
  refine r_siald (q := 683) C hz (10 * c + 1) rfl (by omega) (by omega) dL_law_682 rfl ?_
  refine r_aload_n (q := 684) C 0 dL_law_683 rfl rfl ?_
  refine r_iload (q := 686) C 4 dL_law_684 rfl rfl ?_
  refine r_iconst (q := 687) C (nI 2) dL_law_686 (by decide) rfl ?_
  refine r_iadd (q := 688) C dL_law_687 rfl ?_
  refine r_ti (show ((nI (10 * c)) + (nI 2) : Int32) = nI (10 * c + 2) from nI_add (10 * c) 2) ?_
  refine r_siald (q := 689) C hz (10 * c + 2) rfl (by omega) (by omega) dL_law_688 rfl ?_
  refine r_aload_n (q := 690) C 0 dL_law_689 rfl rfl ?_
  refine r_iload (q := 692) C 4 dL_law_690 rfl rfl ?_
  refine r_iconst (q := 693) C (nI 3) dL_law_692 (by decide) rfl ?_
  refine r_iadd (q := 694) C dL_law_693 rfl ?_
  refine r_ti (show ((nI (10 * c)) + (nI 3) : Int32) = nI (10 * c + 3) from nI_add (10 * c) 3) ?_
  refine r_siald (q := 695) C hz (10 * c + 3) rfl (by omega) (by omega) dL_law_694 rfl ?_
  refine r_i2l (q := 696) C dL_law_695 rfl ?_
  refine r_bipush (q := 698) C (nI 32) dL_law_696 (by decide) rfl ?_
  refine r_lshl (q := 699) C dL_law_698 rfl ?_
  refine r_aload_n (q := 700) C 0 dL_law_699 rfl rfl ?_
  refine r_iload (q := 702) C 4 dL_law_700 rfl rfl ?_
  refine r_iconst (q := 703) C (nI 4) dL_law_702 (by decide) rfl ?_
  refine r_iadd (q := 704) C dL_law_703 rfl ?_
  refine r_ti (show ((nI (10 * c)) + (nI 4) : Int32) = nI (10 * c + 4) from nI_add (10 * c) 4) ?_
  refine r_siald (q := 705) C hz (10 * c + 4) rfl (by omega) (by omega) dL_law_704 rfl ?_
  refine r_i2l (q := 706) C dL_law_705 rfl ?_
  refine r_ldc2 (q := 709) (v := lN 4294967295) C dL_law_706 q931 rfl ?_
  refine r_land (q := 710) C dL_law_709 rfl ?_
  refine r_lor (q := 711) C dL_law_710 rfl ?_
  refine r_callV (q := 714) (t := 0) (As := [.int (xs (10 * c + 1)), .int (xs (10 * c + 2)), .long ((((xs (10 * c + 3)).toInt64) <<< ((nI 32).toInt64 &&& 63)) ||| (((xs (10 * c + 4)).toInt64) &&& (lN 4294967295)))]) (st := [.int v8]) C koX8 t0 (pm1) q879 q876 q877 q878 q9 rfl ⟨by decide, by decide⟩ (show (parseMethodDescriptor yX8_split.desc).map (fun d => d.parameters.length) = some 3 by decide +kernel) (by decide) (by decide) (by omega) (by omega) (Nat.le_of_ble_eq_true rfl) rfl dL_law_711 rfl ?_
  rintro v9 w2 ⟨rfl, hFin⟩
  show V g k 7 w2 cells slots Q 714 [(0, .ref b), (1, .ref a0), (2, .ref m0), (3, .ref ao), (4, .int (nI (10 * c)))] [.int v8, .int v8]
  refine r_icmp_eq_t (tgt := 1010) C dL_law_714 (by decide) (rfl) ?_
  exact r_widen (by omega) (by omega) (kk w2 (pS w1 w2 hMid hFin))

set_option maxHeartbeats 4000000 in
set_option maxRecDepth 20000 in
theorem w_shr {g : cx_G} {k : kx_T} {b L : Nat} {xs : Nat → Int32} {Q : State → Prop} {w : wd_T} {c a0 m0 ao cells slots : Nat} (C : Cx g k RL cL_law 7 ret 19 600288 7293322) (hz : va_T .int b L (fun j => .int (xs j)) (cx_A g) (kxs k) (gH g)) (hL : L ≤ 480) (hi : 10 * c + 10 ≤ L) (hc : c + 1 ≤ 48) (z1 : cells + 7 ≤ 600288) (z2 : slots + 1015 ≤ 7293322) (hS : St9 g w c a0 m0 ao) (kk : ∀ w', St9 g w' (c + 1) a0 m0 ao → V g k 7 w' (cells + 7) (slots + 1015) Q 1010 [(0, .ref b), (1, .ref a0), (2, .ref m0), (3, .ref ao), (4, .int (nI (10 * c)))] []) : V g k 7 w cells slots Q 719 [(0, .ref b), (1, .ref a0), (2, .ref m0), (3, .ref ao), (4, .int (nI (10 * c)))] [] := by
  refine r_aload_n (q := 720) C 1 dL_law_719 rfl rfl ?_
  refine r_aload_n (q := 721) C 0 dL_law_720 rfl rfl ?_
  refine r_iload (q := 723) C 4 dL_law_721 rfl rfl ?_
  refine r_iconst (q := 724) C (nI 1) dL_law_723 (by decide) rfl ?_
  refine r_iadd (q := 725) C dL_law_724 rfl ?_
  refine r_ti (show ((nI (10 * c)) + (nI 1) : Int32) = nI (10 * c + 1) from nI_add (10 * c) 1) ?_
  refine r_siald (q := 726) C hz (10 * c + 1) rfl (by omega) (by omega) dL_law_725 rfl ?_
  refine r_aload_n (q := 727) C 0 dL_law_726 rfl rfl ?_
  refine r_iload (q := 729) C 4 dL_law_727 rfl rfl ?_
  refine r_iconst (q := 730) C (nI 2) dL_law_729 (by decide) rfl ?_
  refine r_iadd (q := 731) C dL_law_730 rfl ?_
  refine r_ti (show ((nI (10 * c)) + (nI 2) : Int32) = nI (10 * c + 2) from nI_add (10 * c) 2) ?_
  refine r_siald (q := 732) C hz (10 * c + 2) rfl (by omega) (by omega) dL_law_731 rfl ?_
  obtain ⟨fs0, t100⟩ := hS.t100
  obtain ⟨_, Mid, Fin, ⟨v8, rfl⟩, px, pm, pS⟩ := pr_shr (l := kxl k) hS hc (xs (10 * c + 1)) (xs (10 * c + 2))
  refine r_callV (q := 735) (t := 100) (As := [.int (xs (10 * c + 1)), .int (xs (10 * c + 2))]) (st := []) C koX7 t100 (px) q470 q467 q468 q469 q1 rfl ⟨by decide, by decide⟩ (show (parseMethodDescriptor yX7_share.desc).map (fun d => d.parameters.length) = some 2 by decide +kernel) (by decide) (by decide) (by omega) (by omega) (Nat.le_of_ble_eq_true rfl) rfl dL_law_732 rfl ?_
  rintro v9 w1 ⟨rfl, hMid⟩
  obtain ⟨⟨fs1, t0⟩, pm1⟩ := pm w1 hMid
  show V g k 7 w1 cells slots Q 735 [(0, .ref b), (1, .ref a0), (2, .ref m0), (3, .ref ao), (4, .int (nI (10 * c)))] [.long v8]
  refine r_aload_n (q := 736) C 2 dL_law_735 rfl rfl ?_
  refine r_aload_n (q := 737) C 0 dL_law_736 rfl rfl ?_
  refine r_iload (q := 739) C 4 dL_law_737 rfl rfl ?_
  refine r_iconst (q := 740) C (nI 1) dL_law_739 (by decide) rfl ?_
  refine r_iadd (q := 741) C dL_law_740 rfl ?_
  refine r_ti (show ((nI (10 * c)) + (nI 1) : Int32) = nI (10 * c + 1) from nI_add (10 * c) 1) ?_
  refine r_siald (q := 742) C hz (10 * c + 1) rfl (by omega) (by omega) dL_law_741 rfl ?_
  refine r_aload_n (q := 743) C 0 dL_law_742 rfl rfl ?_
  refine r_iload (q := 745) C 4 dL_law_743 rfl rfl ?_
  refine r_iconst (q := 746) C (nI 2) dL_law_745 (by decide) rfl ?_
  refine r_iadd (q := 747) C dL_law_746 rfl ?_
  refine r_ti (show ((nI (10 * c)) + (nI 2) : Int32) = nI (10 * c + 2) from nI_add (10 * c) 2) ?_
  refine r_siald (q := 748) C hz (10 * c + 2) rfl (by omega) (by omega) dL_law_747 rfl ?_
  refine r_callV (q := 751) (t := 0) (As := [.int (xs (10 * c + 1)), .int (xs (10 * c + 2))]) (st := [.long v8]) C koX8 t0 (pm1) q885 q882 q883 q884 q9 rfl ⟨by decide, by decide⟩ (show (parseMethodDescriptor yX8_share.desc).map (fun d => d.parameters.length) = some 2 by decide +kernel) (by decide) (by decide) (by omega) (by omega) (Nat.le_of_ble_eq_true rfl) rfl dL_law_748 rfl ?_
  rintro v9 w2 ⟨rfl, hFin⟩
  show V g k 7 w2 cells slots Q 751 [(0, .ref b), (1, .ref a0), (2, .ref m0), (3, .ref ao), (4, .int (nI (10 * c)))] [.long v8, .long v8]
  refine r_lcmp_eq (q := 752) (q2 := 755) (tgt := 1010) C dL_law_751 rfl dL_law_752 (by decide) rfl (fun _ => ?_) (fun hz3 => absurd (rfl) (by first | exact hz3 | exact fun zz => zz hz3))
  exact r_widen (by omega) (by omega) (kk w2 (pS w1 w2 hMid hFin))

set_option maxHeartbeats 4000000 in
set_option maxRecDepth 20000 in
theorem w_prt {g : cx_G} {k : kx_T} {b L : Nat} {xs : Nat → Int32} {Q : State → Prop} {w : wd_T} {c a0 m0 ao cells slots : Nat} (C : Cx g k RL cL_law 7 ret 19 600288 7293322) (hz : va_T .int b L (fun j => .int (xs j)) (cx_A g) (kxs k) (gH g)) (hL : L ≤ 480) (hi : 10 * c + 10 ≤ L) (hc : c + 1 ≤ 48) (z1 : cells + 7 ≤ 600288) (z2 : slots + 1015 ≤ 7293322) (hS : St9 g w c a0 m0 ao) (kk : ∀ w', St9 g w' (c + 1) a0 m0 ao → V g k 7 w' (cells + 7) (slots + 1015) Q 1010 [(0, .ref b), (1, .ref a0), (2, .ref m0), (3, .ref ao), (4, .int (nI (10 * c)))] []) : V g k 7 w cells slots Q 757 [(0, .ref b), (1, .ref a0), (2, .ref m0), (3, .ref ao), (4, .int (nI (10 * c)))] [] := by
  refine r_aload_n (q := 758) C 1 dL_law_757 rfl rfl ?_
  refine r_aload_n (q := 759) C 0 dL_law_758 rfl rfl ?_
  refine r_iload (q := 761) C 4 dL_law_759 rfl rfl ?_
  refine r_iconst (q := 762) C (nI 1) dL_law_761 (by decide) rfl ?_
  refine r_iadd (q := 763) C dL_law_762 rfl ?_
  refine r_ti (show ((nI (10 * c)) + (nI 1) : Int32) = nI (10 * c + 1) from nI_add (10 * c) 1) ?_
  refine r_siald (q := 764) C hz (10 * c + 1) rfl (by omega) (by omega) dL_law_763 rfl ?_
  refine r_aload_n (q := 765) C 0 dL_law_764 rfl rfl ?_
  refine r_iload (q := 767) C 4 dL_law_765 rfl rfl ?_
  refine r_iconst (q := 768) C (nI 2) dL_law_767 (by decide) rfl ?_
  refine r_iadd (q := 769) C dL_law_768 rfl ?_
  refine r_ti (show ((nI (10 * c)) + (nI 2) : Int32) = nI (10 * c + 2) from nI_add (10 * c) 2) ?_
  refine r_siald (q := 770) C hz (10 * c + 2) rfl (by omega) (by omega) dL_law_769 rfl ?_
  obtain ⟨fs0, t100⟩ := hS.t100
  obtain ⟨_, Mid, Fin, ⟨v8, rfl⟩, px, pm, pS⟩ := pr_prt (l := kxl k) hS hc (xs (10 * c + 1)) (xs (10 * c + 2))
  refine r_callV (q := 773) (t := 100) (As := [.int (xs (10 * c + 1)), .int (xs (10 * c + 2))]) (st := []) C koX7 t100 (px) q483 q480 q481 q482 q1 rfl ⟨by decide, by decide⟩ (show (parseMethodDescriptor yX7_print.desc).map (fun d => d.parameters.length) = some 2 by decide +kernel) (by decide) (by decide) (by omega) (by omega) (Nat.le_of_ble_eq_true rfl) rfl dL_law_770 rfl ?_
  rintro v9 w1 ⟨rfl, hMid⟩
  obtain ⟨⟨fs1, t0⟩, pm1⟩ := pm w1 hMid
  show V g k 7 w1 cells slots Q 773 [(0, .ref b), (1, .ref a0), (2, .ref m0), (3, .ref ao), (4, .int (nI (10 * c)))] [.int v8]
  refine r_aload_n (q := 774) C 2 dL_law_773 rfl rfl ?_
  refine r_aload_n (q := 775) C 0 dL_law_774 rfl rfl ?_
  refine r_iload (q := 777) C 4 dL_law_775 rfl rfl ?_
  refine r_iconst (q := 778) C (nI 1) dL_law_777 (by decide) rfl ?_
  refine r_iadd (q := 779) C dL_law_778 rfl ?_
  refine r_ti (show ((nI (10 * c)) + (nI 1) : Int32) = nI (10 * c + 1) from nI_add (10 * c) 1) ?_
  refine r_siald (q := 780) C hz (10 * c + 1) rfl (by omega) (by omega) dL_law_779 rfl ?_
  refine r_aload_n (q := 781) C 0 dL_law_780 rfl rfl ?_
  refine r_iload (q := 783) C 4 dL_law_781 rfl rfl ?_
  refine r_iconst (q := 784) C (nI 2) dL_law_783 (by decide) rfl ?_
  refine r_iadd (q := 785) C dL_law_784 rfl ?_
  refine r_ti (show ((nI (10 * c)) + (nI 2) : Int32) = nI (10 * c + 2) from nI_add (10 * c) 2) ?_
  refine r_siald (q := 786) C hz (10 * c + 2) rfl (by omega) (by omega) dL_law_785 rfl ?_
  refine r_callV (q := 789) (t := 0) (As := [.int (xs (10 * c + 1)), .int (xs (10 * c + 2))]) (st := [.int v8]) C koX8 t0 (pm1) q890 q887 q888 q889 q9 rfl ⟨by decide, by decide⟩ (show (parseMethodDescriptor yX8_print.desc).map (fun d => d.parameters.length) = some 2 by decide +kernel) (by decide) (by decide) (by omega) (by omega) (Nat.le_of_ble_eq_true rfl) rfl dL_law_786 rfl ?_
  rintro v9 w2 ⟨rfl, hFin⟩
  show V g k 7 w2 cells slots Q 789 [(0, .ref b), (1, .ref a0), (2, .ref m0), (3, .ref ao), (4, .int (nI (10 * c)))] [.int v8, .int v8]
  refine r_icmp_eq_t (tgt := 1010) C dL_law_789 (by decide) (rfl) ?_
  exact r_widen (by omega) (by omega) (kk w2 (pS w1 w2 hMid hFin))

set_option maxHeartbeats 4000000 in
set_option maxRecDepth 20000 in
theorem w_pk {g : cx_G} {k : kx_T} {b L : Nat} {xs : Nat → Int32} {Q : State → Prop} {w : wd_T} {c a0 m0 ao cells slots : Nat} (C : Cx g k RL cL_law 7 ret 19 600288 7293322) (hz : va_T .int b L (fun j => .int (xs j)) (cx_A g) (kxs k) (gH g)) (hL : L ≤ 480) (hi : 10 * c + 10 ≤ L) (hc : c + 1 ≤ 48) (z1 : cells + 7 ≤ 600288) (z2 : slots + 1015 ≤ 7293322) (hS : St9 g w c a0 m0 ao) (kk : ∀ w', St9 g w' (c + 1) a0 m0 ao → V g k 7 w' (cells + 7) (slots + 1015) Q 1010 [(0, .ref b), (1, .ref a0), (2, .ref m0), (3, .ref ao), (4, .int (nI (10 * c)))] []) : V g k 7 w cells slots Q 794 [(0, .ref b), (1, .ref a0), (2, .ref m0), (3, .ref ao), (4, .int (nI (10 * c)))] [] := by
  refine r_aload_n (q := 795) C 1 dL_law_794 rfl rfl ?_
  refine r_aload_n (q := 796) C 0 dL_law_795 rfl rfl ?_
  refine r_iload (q := 798) C 4 dL_law_796 rfl rfl ?_
  refine r_iconst (q := 799) C (nI 1) dL_law_798 (by decide) rfl ?_
  refine r_iadd (q := 800) C dL_law_799 rfl ?_
  refine r_ti (show ((nI (10 * c)) + (nI 1) : Int32) = nI (10 * c + 1) from nI_add (10 * c) 1) ?_
  refine r_siald (q := 801) C hz (10 * c + 1) rfl (by omega) (by omega) dL_law_800 rfl ?_
  refine r_aload_n (q := 802) C 0 dL_law_801 rfl rfl ?_
  refine r_iload (q := 804) C 4 dL_law_802 rfl rfl ?_
  refine r_iconst (q := 805) C (nI 2) dL_law_804 (by decide) rfl ?_
  refine r_iadd (q := 806) C dL_law_805 rfl ?_
  refine r_ti (show ((nI (10 * c)) + (nI 2) : Int32) = nI (10 * c + 2) from nI_add (10 * c) 2) ?_
  refine r_siald (q := 807) C hz (10 * c + 2) rfl (by omega) (by omega) dL_law_806 rfl ?_
  refine r_aload_n (q := 808) C 0 dL_law_807 rfl rfl ?_
  refine r_iload (q := 810) C 4 dL_law_808 rfl rfl ?_
  refine r_iconst (q := 811) C (nI 3) dL_law_810 (by decide) rfl ?_
  refine r_iadd (q := 812) C dL_law_811 rfl ?_
  refine r_ti (show ((nI (10 * c)) + (nI 3) : Int32) = nI (10 * c + 3) from nI_add (10 * c) 3) ?_
  refine r_siald (q := 813) C hz (10 * c + 3) rfl (by omega) (by omega) dL_law_812 rfl ?_
  obtain ⟨fs0, t100⟩ := hS.t100
  obtain ⟨_, Mid, Fin, ⟨v8, rfl⟩, px, pm, pS⟩ := pr_pk (l := kxl k) hS hc (xs (10 * c + 1)) (xs (10 * c + 2)) (xs (10 * c + 3))
  refine r_callV (q := 816) (t := 100) (As := [.int (xs (10 * c + 1)), .int (xs (10 * c + 2)), .int (xs (10 * c + 3))]) (st := []) C koX7 t100 (px) q554 q551 q552 q553 q1 rfl ⟨by decide, by decide⟩ (show (parseMethodDescriptor yX7_poke.desc).map (fun d => d.parameters.length) = some 3 by decide +kernel) (by decide) (by decide) (by omega) (by omega) (Nat.le_of_ble_eq_true rfl) rfl dL_law_813 rfl ?_
  rintro v9 w1 ⟨rfl, hMid⟩
  obtain ⟨⟨fs1, t0⟩, pm1⟩ := pm w1 hMid
  show V g k 7 w1 cells slots Q 816 [(0, .ref b), (1, .ref a0), (2, .ref m0), (3, .ref ao), (4, .int (nI (10 * c)))] [.int v8]
  refine r_aload_n (q := 817) C 2 dL_law_816 rfl rfl ?_
  refine r_aload_n (q := 818) C 0 dL_law_817 rfl rfl ?_
  refine r_iload (q := 820) C 4 dL_law_818 rfl rfl ?_
  refine r_iconst (q := 821) C (nI 1) dL_law_820 (by decide) rfl ?_
  refine r_iadd (q := 822) C dL_law_821 rfl ?_
  refine r_ti (show ((nI (10 * c)) + (nI 1) : Int32) = nI (10 * c + 1) from nI_add (10 * c) 1) ?_
  refine r_siald (q := 823) C hz (10 * c + 1) rfl (by omega) (by omega) dL_law_822 rfl ?_
  refine r_aload_n (q := 824) C 0 dL_law_823 rfl rfl ?_
  refine r_iload (q := 826) C 4 dL_law_824 rfl rfl ?_
  refine r_iconst (q := 827) C (nI 2) dL_law_826 (by decide) rfl ?_
  refine r_iadd (q := 828) C dL_law_827 rfl ?_
  refine r_ti (show ((nI (10 * c)) + (nI 2) : Int32) = nI (10 * c + 2) from nI_add (10 * c) 2) ?_
  refine r_siald (q := 829) C hz (10 * c + 2) rfl (by omega) (by omega) dL_law_828 rfl ?_
  refine r_aload_n (q := 830) C 0 dL_law_829 rfl rfl ?_
  refine r_iload (q := 832) C 4 dL_law_830 rfl rfl ?_
  refine r_iconst (q := 833) C (nI 3) dL_law_832 (by decide) rfl ?_
  refine r_iadd (q := 834) C dL_law_833 rfl ?_
  refine r_ti (show ((nI (10 * c)) + (nI 3) : Int32) = nI (10 * c + 3) from nI_add (10 * c) 3) ?_
  refine r_siald (q := 835) C hz (10 * c + 3) rfl (by omega) (by omega) dL_law_834 rfl ?_
  refine r_callV (q := 838) (t := 0) (As := [.int (xs (10 * c + 1)), .int (xs (10 * c + 2)), .int (xs (10 * c + 3))]) (st := [.int v8]) C koX8 t0 (pm1) q904 q901 q902 q903 q9 rfl ⟨by decide, by decide⟩ (show (parseMethodDescriptor yX8_poke.desc).map (fun d => d.parameters.length) = some 3 by decide +kernel) (by decide) (by decide) (by omega) (by omega) (Nat.le_of_ble_eq_true rfl) rfl dL_law_835 rfl ?_
  rintro v9 w2 ⟨rfl, hFin⟩
  show V g k 7 w2 cells slots Q 838 [(0, .ref b), (1, .ref a0), (2, .ref m0), (3, .ref ao), (4, .int (nI (10 * c)))] [.int v8, .int v8]
  refine r_icmp_eq_t (tgt := 1010) C dL_law_838 (by decide) (rfl) ?_
  exact r_widen (by omega) (by omega) (kk w2 (pS w1 w2 hMid hFin))

set_option maxHeartbeats 4000000 in
set_option maxRecDepth 20000 in
theorem w_dig {g : cx_G} {k : kx_T} {b L : Nat} {xs : Nat → Int32} {Q : State → Prop} {w : wd_T} {c a0 m0 ao cells slots : Nat} (C : Cx g k RL cL_law 7 ret 19 600288 7293322) (hz : va_T .int b L (fun j => .int (xs j)) (cx_A g) (kxs k) (gH g)) (hL : L ≤ 480) (hi : 10 * c + 10 ≤ L) (hc : c + 1 ≤ 48) (z1 : cells + 7 ≤ 600288) (z2 : slots + 1015 ≤ 7293322) (hS : St9 g w c a0 m0 ao) (kk : ∀ w', St9 g w' (c + 1) a0 m0 ao → V g k 7 w' (cells + 7) (slots + 1015) Q 1010 [(0, .ref b), (1, .ref a0), (2, .ref m0), (3, .ref ao), (4, .int (nI (10 * c)))] []) : V g k 7 w cells slots Q 911 [(0, .ref b), (1, .ref a0), (2, .ref m0), (3, .ref ao), (4, .int (nI (10 * c)))] [] := by
  refine r_aload_n (q := 912) C 1 dL_law_911 rfl rfl ?_
  refine r_aload_n (q := 913) C 0 dL_law_912 rfl rfl ?_
  refine r_iload (q := 915) C 4 dL_law_913 rfl rfl ?_
  refine r_iconst (q := 916) C (nI 1) dL_law_915 (by decide) rfl ?_
  refine r_iadd (q := 917) C dL_law_916 rfl ?_
  refine r_ti (show ((nI (10 * c)) + (nI 1) : Int32) = nI (10 * c + 1) from nI_add (10 * c) 1) ?_
  refine r_siald (q := 918) C hz (10 * c + 1) rfl (by omega) (by omega) dL_law_917 rfl ?_
  refine r_aload_n (q := 919) C 0 dL_law_918 rfl rfl ?_
  refine r_iload (q := 921) C 4 dL_law_919 rfl rfl ?_
  refine r_iconst (q := 922) C (nI 2) dL_law_921 (by decide) rfl ?_
  refine r_iadd (q := 923) C dL_law_922 rfl ?_
  refine r_ti (show ((nI (10 * c)) + (nI 2) : Int32) = nI (10 * c + 2) from nI_add (10 * c) 2) ?_
  refine r_siald (q := 924) C hz (10 * c + 2) rfl (by omega) (by omega) dL_law_923 rfl ?_
  obtain ⟨fs0, t100⟩ := hS.t100
  obtain ⟨_, Mid, Fin, ⟨v8, rfl⟩, px, pm, pS⟩ := pr_dig (l := kxl k) hS hc (xs (10 * c + 1)) (xs (10 * c + 2))
  refine r_callV (q := 927) (t := 100) (As := [.int (xs (10 * c + 1)), .int (xs (10 * c + 2))]) (st := []) C koX7 t100 (px) q567 q564 q565 q566 q1 rfl ⟨by decide, by decide⟩ (show (parseMethodDescriptor yX7_digest.desc).map (fun d => d.parameters.length) = some 2 by decide +kernel) (by decide) (by decide) (by omega) (by omega) (Nat.le_of_ble_eq_true rfl) rfl dL_law_924 rfl ?_
  rintro v9 w1 ⟨rfl, hMid⟩
  obtain ⟨⟨fs1, t0⟩, pm1⟩ := pm w1 hMid
  show V g k 7 w1 cells slots Q 927 [(0, .ref b), (1, .ref a0), (2, .ref m0), (3, .ref ao), (4, .int (nI (10 * c)))] [.int v8]
  refine r_aload_n (q := 928) C 2 dL_law_927 rfl rfl ?_
  refine r_aload_n (q := 929) C 0 dL_law_928 rfl rfl ?_
  refine r_iload (q := 931) C 4 dL_law_929 rfl rfl ?_
  refine r_iconst (q := 932) C (nI 1) dL_law_931 (by decide) rfl ?_
  refine r_iadd (q := 933) C dL_law_932 rfl ?_
  refine r_ti (show ((nI (10 * c)) + (nI 1) : Int32) = nI (10 * c + 1) from nI_add (10 * c) 1) ?_
  refine r_siald (q := 934) C hz (10 * c + 1) rfl (by omega) (by omega) dL_law_933 rfl ?_
  refine r_aload_n (q := 935) C 0 dL_law_934 rfl rfl ?_
  refine r_iload (q := 937) C 4 dL_law_935 rfl rfl ?_
  refine r_iconst (q := 938) C (nI 2) dL_law_937 (by decide) rfl ?_
  refine r_iadd (q := 939) C dL_law_938 rfl ?_
  refine r_ti (show ((nI (10 * c)) + (nI 2) : Int32) = nI (10 * c + 2) from nI_add (10 * c) 2) ?_
  refine r_siald (q := 940) C hz (10 * c + 2) rfl (by omega) (by omega) dL_law_939 rfl ?_
  refine r_callV (q := 943) (t := 0) (As := [.int (xs (10 * c + 1)), .int (xs (10 * c + 2))]) (st := [.int v8]) C koX8 t0 (pm1) q917 q914 q915 q916 q9 rfl ⟨by decide, by decide⟩ (show (parseMethodDescriptor yX8_digest.desc).map (fun d => d.parameters.length) = some 2 by decide +kernel) (by decide) (by decide) (by omega) (by omega) (Nat.le_of_ble_eq_true rfl) rfl dL_law_940 rfl ?_
  rintro v9 w2 ⟨rfl, hFin⟩
  show V g k 7 w2 cells slots Q 943 [(0, .ref b), (1, .ref a0), (2, .ref m0), (3, .ref ao), (4, .int (nI (10 * c)))] [.int v8, .int v8]
  refine r_icmp_eq_t (tgt := 1010) C dL_law_943 (by decide) (rfl) ?_
  exact r_widen (by omega) (by omega) (kk w2 (pS w1 w2 hMid hFin))

set_option maxHeartbeats 4000000 in
set_option maxRecDepth 20000 in
theorem w_chk {g : cx_G} {k : kx_T} {b L : Nat} {xs : Nat → Int32} {Q : State → Prop} {w : wd_T} {c a0 m0 ao cells slots : Nat} (C : Cx g k RL cL_law 7 ret 19 600288 7293322) (hz : va_T .int b L (fun j => .int (xs j)) (cx_A g) (kxs k) (gH g)) (hL : L ≤ 480) (hi : 10 * c + 10 ≤ L) (hc : c + 1 ≤ 48) (z1 : cells + 7 ≤ 600288) (z2 : slots + 1015 ≤ 7293322) (hS : St9 g w c a0 m0 ao) (kk : ∀ w', St9 g w' (c + 1) a0 m0 ao → V g k 7 w' (cells + 7) (slots + 1015) Q 1010 [(0, .ref b), (1, .ref a0), (2, .ref m0), (3, .ref ao), (4, .int (nI (10 * c)))] []) : V g k 7 w cells slots Q 948 [(0, .ref b), (1, .ref a0), (2, .ref m0), (3, .ref ao), (4, .int (nI (10 * c)))] [] := by
  refine r_aload_n (q := 949) C 1 dL_law_948 rfl rfl ?_
  refine r_aload_n (q := 950) C 0 dL_law_949 rfl rfl ?_
  refine r_iload (q := 952) C 4 dL_law_950 rfl rfl ?_
  refine r_iconst (q := 953) C (nI 1) dL_law_952 (by decide) rfl ?_
  refine r_iadd (q := 954) C dL_law_953 rfl ?_
  refine r_ti (show ((nI (10 * c)) + (nI 1) : Int32) = nI (10 * c + 1) from nI_add (10 * c) 1) ?_
  refine r_siald (q := 955) C hz (10 * c + 1) rfl (by omega) (by omega) dL_law_954 rfl ?_
  obtain ⟨fs0, t100⟩ := hS.t100
  obtain ⟨_, Mid, Fin, ⟨v8, rfl⟩, px, pm, pS⟩ := pr_chk (l := kxl k) hS hc (xs (10 * c + 1))
  refine r_callV (q := 958) (t := 100) (As := [.int (xs (10 * c + 1))]) (st := []) C koX7 t100 (px) q575 q572 q573 q574 q1 rfl ⟨by decide, by decide⟩ (show (parseMethodDescriptor yX7_check.desc).map (fun d => d.parameters.length) = some 1 by decide +kernel) (by decide) (by decide) (by omega) (by omega) (Nat.le_of_ble_eq_true rfl) rfl dL_law_955 rfl ?_
  rintro v9 w1 ⟨rfl, hMid⟩
  obtain ⟨⟨fs1, t0⟩, pm1⟩ := pm w1 hMid
  show V g k 7 w1 cells slots Q 958 [(0, .ref b), (1, .ref a0), (2, .ref m0), (3, .ref ao), (4, .int (nI (10 * c)))] [.int v8]
  refine r_aload_n (q := 959) C 2 dL_law_958 rfl rfl ?_
  refine r_aload_n (q := 960) C 0 dL_law_959 rfl rfl ?_
  refine r_iload (q := 962) C 4 dL_law_960 rfl rfl ?_
  refine r_iconst (q := 963) C (nI 1) dL_law_962 (by decide) rfl ?_
  refine r_iadd (q := 964) C dL_law_963 rfl ?_
  refine r_ti (show ((nI (10 * c)) + (nI 1) : Int32) = nI (10 * c + 1) from nI_add (10 * c) 1) ?_
  refine r_siald (q := 965) C hz (10 * c + 1) rfl (by omega) (by omega) dL_law_964 rfl ?_
  refine r_callV (q := 968) (t := 0) (As := [.int (xs (10 * c + 1))]) (st := [.int v8]) C koX8 t0 (pm1) q922 q919 q920 q921 q9 rfl ⟨by decide, by decide⟩ (show (parseMethodDescriptor yX8_check.desc).map (fun d => d.parameters.length) = some 1 by decide +kernel) (by decide) (by decide) (by omega) (by omega) (Nat.le_of_ble_eq_true rfl) rfl dL_law_965 rfl ?_
  rintro v9 w2 ⟨rfl, hFin⟩
  show V g k 7 w2 cells slots Q 968 [(0, .ref b), (1, .ref a0), (2, .ref m0), (3, .ref ao), (4, .int (nI (10 * c)))] [.int v8, .int v8]
  refine r_icmp_eq_t (tgt := 1010) C dL_law_968 (by decide) (rfl) ?_
  exact r_widen (by omega) (by omega) (kk w2 (pS w1 w2 hMid hFin))

set_option maxHeartbeats 4000000 in
set_option maxRecDepth 20000 in
theorem w_root {g : cx_G} {k : kx_T} {b L : Nat} {xs : Nat → Int32} {Q : State → Prop} {w : wd_T} {c a0 m0 ao cells slots : Nat} (C : Cx g k RL cL_law 7 ret 19 600288 7293322) (hz : va_T .int b L (fun j => .int (xs j)) (cx_A g) (kxs k) (gH g)) (hL : L ≤ 480) (hi : 10 * c + 10 ≤ L) (hc : c + 1 ≤ 48) (z1 : cells + 7 ≤ 600288) (z2 : slots + 1015 ≤ 7293322) (hS : St9 g w c a0 m0 ao) (kk : ∀ w', St9 g w' (c + 1) a0 m0 ao → V g k 7 w' (cells + 7) (slots + 1015) Q 1010 [(0, .ref b), (1, .ref a0), (2, .ref m0), (3, .ref ao), (4, .int (nI (10 * c)))] []) : V g k 7 w cells slots Q 973 [(0, .ref b), (1, .ref a0), (2, .ref m0), (3, .ref ao), (4, .int (nI (10 * c)))] [] := by
  refine r_aload_n (q := 974) C 1 dL_law_973 rfl rfl ?_
  refine r_aload_n (q := 975) C 0 dL_law_974 rfl rfl ?_
  refine r_iload (q := 977) C 4 dL_law_975 rfl rfl ?_
  refine r_iconst (q := 978) C (nI 1) dL_law_977 (by decide) rfl ?_
  refine r_iadd (q := 979) C dL_law_978 rfl ?_
  refine r_ti (show ((nI (10 * c)) + (nI 1) : Int32) = nI (10 * c + 1) from nI_add (10 * c) 1) ?_
  refine r_siald (q := 980) C hz (10 * c + 1) rfl (by omega) (by omega) dL_law_979 rfl ?_
  refine r_aload_n (q := 981) C 0 dL_law_980 rfl rfl ?_
  refine r_iload (q := 983) C 4 dL_law_981 rfl rfl ?_
  refine r_iconst (q := 984) C (nI 2) dL_law_983 (by decide) rfl ?_
  refine r_iadd (q := 985) C dL_law_984 rfl ?_
  refine r_ti (show ((nI (10 * c)) + (nI 2) : Int32) = nI (10 * c + 2) from nI_add (10 * c) 2) ?_
  refine r_siald (q := 986) C hz (10 * c + 2) rfl (by omega) (by omega) dL_law_985 rfl ?_
  obtain ⟨fs0, t100⟩ := hS.t100
  obtain ⟨_, Mid, Fin, ⟨v8, rfl⟩, px, pm, pS⟩ := pr_root (l := kxl k) hS hc (xs (10 * c + 1)) (xs (10 * c + 2))
  refine r_callV (q := 989) (t := 100) (As := [.int (xs (10 * c + 1)), .int (xs (10 * c + 2))]) (st := []) C koX7 t100 (px) q587 q584 q585 q586 q1 rfl ⟨by decide, by decide⟩ (show (parseMethodDescriptor yX7_root.desc).map (fun d => d.parameters.length) = some 2 by decide +kernel) (by decide) (by decide) (by omega) (by omega) (Nat.le_of_ble_eq_true rfl) rfl dL_law_986 rfl ?_
  rintro v9 w1 ⟨rfl, hMid⟩
  obtain ⟨⟨fs1, t0⟩, pm1⟩ := pm w1 hMid
  show V g k 7 w1 cells slots Q 989 [(0, .ref b), (1, .ref a0), (2, .ref m0), (3, .ref ao), (4, .int (nI (10 * c)))] [.int v8]
  refine r_aload_n (q := 990) C 2 dL_law_989 rfl rfl ?_
  refine r_aload_n (q := 991) C 0 dL_law_990 rfl rfl ?_
  refine r_iload (q := 993) C 4 dL_law_991 rfl rfl ?_
  refine r_iconst (q := 994) C (nI 1) dL_law_993 (by decide) rfl ?_
  refine r_iadd (q := 995) C dL_law_994 rfl ?_
  refine r_ti (show ((nI (10 * c)) + (nI 1) : Int32) = nI (10 * c + 1) from nI_add (10 * c) 1) ?_
  refine r_siald (q := 996) C hz (10 * c + 1) rfl (by omega) (by omega) dL_law_995 rfl ?_
  refine r_aload_n (q := 997) C 0 dL_law_996 rfl rfl ?_
  refine r_iload (q := 999) C 4 dL_law_997 rfl rfl ?_
  refine r_iconst (q := 1000) C (nI 2) dL_law_999 (by decide) rfl ?_
  refine r_iadd (q := 1001) C dL_law_1000 rfl ?_
  refine r_ti (show ((nI (10 * c)) + (nI 2) : Int32) = nI (10 * c + 2) from nI_add (10 * c) 2) ?_
  refine r_siald (q := 1002) C hz (10 * c + 2) rfl (by omega) (by omega) dL_law_1001 rfl ?_
  refine r_callV (q := 1005) (t := 0) (As := [.int (xs (10 * c + 1)), .int (xs (10 * c + 2))]) (st := [.int v8]) C koX8 t0 (pm1) q926 q923 q924 q925 q9 rfl ⟨by decide, by decide⟩ (show (parseMethodDescriptor yX8_root.desc).map (fun d => d.parameters.length) = some 2 by decide +kernel) (by decide) (by decide) (by omega) (by omega) (Nat.le_of_ble_eq_true rfl) rfl dL_law_1002 rfl ?_
  rintro v9 w2 ⟨rfl, hFin⟩
  show V g k 7 w2 cells slots Q 1005 [(0, .ref b), (1, .ref a0), (2, .ref m0), (3, .ref ao), (4, .int (nI (10 * c)))] [.int v8, .int v8]
  refine r_icmp_eq_t (tgt := 1010) C dL_law_1005 (by decide) (rfl) ?_
  exact r_widen (by omega) (by omega) (kk w2 (pS w1 w2 hMid hFin))

set_option maxHeartbeats 4000000 in
set_option maxRecDepth 20000 in
theorem w_byt {g : cx_G} {k : kx_T} {b L : Nat} {xs : Nat → Int32} {Q : State → Prop} {w : wd_T} {c a0 m0 ao cells slots : Nat} (C : Cx g k RL cL_law 7 ret 19 600288 7293322) (hz : va_T .int b L (fun j => .int (xs j)) (cx_A g) (kxs k) (gH g)) (hL : L ≤ 480) (hi : 10 * c + 10 ≤ L) (hc : c + 1 ≤ 48) (z1 : cells + 7 ≤ 600288) (z2 : slots + 1015 ≤ 7293322) (hS : St9 g w c a0 m0 ao) (hX : KX g (kxs k)) (hlt : (kxl k).stackTraces = false) (kk : ∀ w', St9 g w' (c + 1) a0 m0 ao → V g k 7 w' (cells + 7) (slots + 1015) Q 1010 [(0, .ref b), (1, .ref a0), (2, .ref m0), (3, .ref ao), (4, .int (nI (10 * c)))] []) : V g k 7 w cells slots Q 843 [(0, .ref b), (1, .ref a0), (2, .ref m0), (3, .ref ao), (4, .int (nI (10 * c)))] [] := by
  obtain ⟨fl, tk, gN, rN, tN, fn, wn, gp, by9, rD, tD, tV, tT, hT, hM, hI, hZ, fo, h50⟩ := hS
  have hU := hI.up hc
  obtain ⟨i0, i1, i2, i3, i4, i5, i6, i7, i8, i9, i10⟩ := id hI
  refine r_aload_n (q := 844) C 1 dL_law_843 rfl rfl ?_
  refine r_aload_n (q := 845) C 0 dL_law_844 rfl rfl ?_
  refine r_iload (q := 847) C 4 dL_law_845 rfl rfl ?_
  refine r_iconst (q := 848) C (nI 1) dL_law_847 (by decide) rfl ?_
  refine r_iadd (q := 849) C dL_law_848 rfl ?_
  refine r_ti (show ((nI (10 * c)) + (nI 1) : Int32) = nI (10 * c + 1) from nI_add (10 * c) 1) ?_
  refine r_siald (q := 850) C hz (10 * c + 1) rfl (by omega) (by omega) dL_law_849 rfl ?_
  refine r_aload_n (q := 851) C 0 dL_law_850 rfl rfl ?_
  refine r_iload (q := 853) C 4 dL_law_851 rfl rfl ?_
  refine r_iconst (q := 854) C (nI 2) dL_law_853 (by decide) rfl ?_
  refine r_iadd (q := 855) C dL_law_854 rfl ?_
  refine r_ti (show ((nI (10 * c)) + (nI 2) : Int32) = nI (10 * c + 2) from nI_add (10 * c) 2) ?_
  refine r_siald (q := 856) C hz (10 * c + 2) rfl (by omega) (by omega) dL_law_855 rfl ?_
  refine r_aload_n (q := 857) C 3 dL_law_856 rfl rfl ?_
  rcases cs9 (xs (10 * c + 1)) (n := rN) (by omega) with hx | ⟨k9, hk9, e1⟩
  · refine r_callSH (q := 860) (As := [.ref a0, .int (xs (10 * c + 1)), .int (xs (10 * c + 2)), .ref ao]) (st := []) C hX (z_byt_n hT hI hlt (y := xs (10 * c + 2)) hx) q603 q601 q602 q0 ⟨by decide, by decide⟩ (show (parseMethodDescriptor yL_byteAt.desc).map (fun d => d.parameters.length) = some 4 by decide +kernel) (by decide) (by decide) (by omega) (by omega) (Nat.le_of_ble_eq_true rfl) rfl dL_law_857 rfl ?_
    rintro v9 w1 ⟨rfl, rfl⟩
    have hM1 := hM
    have hT1 := hT
    have h51 := h50
    show V g k 7 w (cells + 1) (slots + 6) Q 860 [(0, .ref b), (1, .ref a0), (2, .ref m0), (3, .ref ao), (4, .int (nI (10 * c)))] [.int (nI 1)]
    refine r_istore (q := 862) (lv' := [(5, .int (nI 1)), (0, .ref b), (1, .ref a0), (2, .ref m0), (3, .ref ao), (4, .int (nI (10 * c)))]) C dL_law_860 (by decide) rfl rfl ?_
    refine r_aload_n (q := 863) C 3 dL_law_862 rfl rfl ?_
    refine r_aload_n (q := 864) C 1 dL_law_863 rfl rfl ?_
    refine r_iload (q := 866) C 5 dL_law_864 rfl rfl ?_
    refine r_iconst (q := 867) C (nI 1) dL_law_866 (by decide) rfl ?_
    refine r_iadd (q := 868) C dL_law_867 rfl ?_
    refine r_ti (show ((nI (10 * c)) + (nI 1) : Int32) = nI (10 * c + 1) from nI_add (10 * c) 1) ?_
    refine r_siald (q := 869) C hz (10 * c + 1) rfl (by omega) (by omega) dL_law_868 rfl ?_
    refine r_aload_n (q := 870) C 1 dL_law_869 rfl rfl ?_
    refine r_iload (q := 872) C 5 dL_law_870 rfl rfl ?_
    refine r_iconst (q := 873) C (nI 2) dL_law_872 (by decide) rfl ?_
    refine r_iadd (q := 874) C dL_law_873 rfl ?_
    refine r_ti (show ((nI (10 * c)) + (nI 2) : Int32) = nI (10 * c + 2) from nI_add (10 * c) 2) ?_
    refine r_siald (q := 875) C hz (10 * c + 2) rfl (by omega) (by omega) dL_law_874 rfl ?_
    obtain ⟨fs1, t0⟩ := hM1.zero
    have yb := y_byt_n (l := kxl k) hM1 hI (y := xs (10 * c + 2)) hx
    refine r_callV (q := 878) (t := 0) (As := [.int (xs (10 * c + 1)), .int (xs (10 * c + 2))]) (st := []) C koX8 t0 (yb) q913 q910 q911 q912 q9 rfl ⟨by decide, by decide⟩ (show (parseMethodDescriptor yX8_byteAt.desc).map (fun d => d.parameters.length) = some 2 by decide +kernel) (by decide) (by decide) (by omega) (by omega) (Nat.le_of_ble_eq_true rfl) rfl dL_law_875 rfl ?_
    rintro v9 w2 ⟨rfl, hM3, hf3⟩
    obtain ⟨fs2, t0⟩ := hM3.zero
    show V g k 7 w2 (cells + 1) (slots + 6) Q 878 [(5, .int (nI 1)), (0, .ref b), (1, .ref a0), (2, .ref m0), (3, .ref ao), (4, .int (nI (10 * c)))] [.int (nI 0)]
    refine r_istore (q := 880) (lv' := [(6, .int (nI 0)), (5, .int (nI 1)), (0, .ref b), (1, .ref a0), (2, .ref m0), (3, .ref ao), (4, .int (nI (10 * c)))]) C dL_law_878 (by decide) rfl rfl ?_
    refine r_aload_n (q := 881) C 4 dL_law_880 rfl rfl ?_
    refine r_callV (q := 884) (t := 0) (As := []) (st := []) C koX8 t0 (y_thrown hM3 hI) q779 q776 q777 q778 q9 rfl ⟨by decide, by decide⟩ (show (parseMethodDescriptor yX8_thrown.desc).map (fun d => d.parameters.length) = some 0 by decide +kernel) (by decide) (by decide) (by omega) (by omega) (Nat.le_of_ble_eq_true rfl) rfl dL_law_881 rfl ?_
    rintro v9 w2 ⟨rfl, rfl⟩
    show V g k 7 w2 (cells + 1) (slots + 6) Q 884 [(6, .int (nI 0)), (5, .int (nI 1)), (0, .ref b), (1, .ref a0), (2, .ref m0), (3, .ref ao), (4, .int (nI (10 * c)))] [.int (nI 1)]
    refine r_iload (q := 886) C 1 dL_law_884 rfl rfl ?_
    refine r_icmp_eq_t (tgt := 891) C dL_law_886 (by decide) (rfl) ?_
    refine r_iload (q := 893) C 1 dL_law_891 rfl rfl ?_
    refine r_if_ne_t (tgt := 908) C dL_law_893 (by decide) (by decide) ?_
    refine r_goto (tgt := 1010) C dL_law_908 (by decide) ?_
    refine r_sub (lv' := [(0, .ref b), (1, .ref a0), (2, .ref m0), (3, .ref ao), (4, .int (nI (10 * c)))]) [2, 3, 4, 5, 6] rfl ?_
    exact r_widen (by omega) (by omega) (kk w2 ⟨_, tk, gN, rN, tN, fn, wn, gp, by9, rD, tD, tV, tT, hT1.kept hI (fun t ht => hf3 t (by omega)), hM3, hU, hZ, _, (hf3 50 (by decide)).trans h51⟩)
  · rcases cs9 (xs (10 * c + 2)) (n := 73) (by decide) with hy | ⟨i, hi9, e2⟩
    · have zb := z_byt_i (l := kxl k) hT hI hlt hk9 (ao := ao) hy
      rw [← e1] at zb
      refine r_callSH (q := 860) (As := [.ref a0, .int (xs (10 * c + 1)), .int (xs (10 * c + 2)), .ref ao]) (st := []) C hX (zb) q603 q601 q602 q0 ⟨by decide, by decide⟩ (show (parseMethodDescriptor yL_byteAt.desc).map (fun d => d.parameters.length) = some 4 by decide +kernel) (by decide) (by decide) (by omega) (by omega) (Nat.le_of_ble_eq_true rfl) rfl dL_law_857 rfl ?_
      rintro v9 w1 ⟨rfl, rfl⟩
      have hM1 := hM
      have hT1 := hT
      have h51 := h50
      show V g k 7 w (cells + 1) (slots + 6) Q 860 [(0, .ref b), (1, .ref a0), (2, .ref m0), (3, .ref ao), (4, .int (nI (10 * c)))] [.int (nI 1)]
      refine r_istore (q := 862) (lv' := [(5, .int (nI 1)), (0, .ref b), (1, .ref a0), (2, .ref m0), (3, .ref ao), (4, .int (nI (10 * c)))]) C dL_law_860 (by decide) rfl rfl ?_
      refine r_aload_n (q := 863) C 3 dL_law_862 rfl rfl ?_
      refine r_aload_n (q := 864) C 1 dL_law_863 rfl rfl ?_
      refine r_iload (q := 866) C 5 dL_law_864 rfl rfl ?_
      refine r_iconst (q := 867) C (nI 1) dL_law_866 (by decide) rfl ?_
      refine r_iadd (q := 868) C dL_law_867 rfl ?_
      refine r_ti (show ((nI (10 * c)) + (nI 1) : Int32) = nI (10 * c + 1) from nI_add (10 * c) 1) ?_
      refine r_siald (q := 869) C hz (10 * c + 1) rfl (by omega) (by omega) dL_law_868 rfl ?_
      refine r_aload_n (q := 870) C 1 dL_law_869 rfl rfl ?_
      refine r_iload (q := 872) C 5 dL_law_870 rfl rfl ?_
      refine r_iconst (q := 873) C (nI 2) dL_law_872 (by decide) rfl ?_
      refine r_iadd (q := 874) C dL_law_873 rfl ?_
      refine r_ti (show ((nI (10 * c)) + (nI 2) : Int32) = nI (10 * c + 2) from nI_add (10 * c) 2) ?_
      refine r_siald (q := 875) C hz (10 * c + 2) rfl (by omega) (by omega) dL_law_874 rfl ?_
      obtain ⟨fs1, t0⟩ := hM1.zero
      have yb := y_byt_i (l := kxl k) hM1 hI hk9 hy
      rw [← e1] at yb
      refine r_callV (q := 878) (t := 0) (As := [.int (xs (10 * c + 1)), .int (xs (10 * c + 2))]) (st := []) C koX8 t0 (yb) q913 q910 q911 q912 q9 rfl ⟨by decide, by decide⟩ (show (parseMethodDescriptor yX8_byteAt.desc).map (fun d => d.parameters.length) = some 2 by decide +kernel) (by decide) (by decide) (by omega) (by omega) (Nat.le_of_ble_eq_true rfl) rfl dL_law_875 rfl ?_
      rintro v9 w2 ⟨rfl, hM3, hf3⟩
      obtain ⟨fs2, t0⟩ := hM3.zero
      show V g k 7 w2 (cells + 1) (slots + 6) Q 878 [(5, .int (nI 1)), (0, .ref b), (1, .ref a0), (2, .ref m0), (3, .ref ao), (4, .int (nI (10 * c)))] [.int (nI 0)]
      refine r_istore (q := 880) (lv' := [(6, .int (nI 0)), (5, .int (nI 1)), (0, .ref b), (1, .ref a0), (2, .ref m0), (3, .ref ao), (4, .int (nI (10 * c)))]) C dL_law_878 (by decide) rfl rfl ?_
      refine r_aload_n (q := 881) C 4 dL_law_880 rfl rfl ?_
      refine r_callV (q := 884) (t := 0) (As := []) (st := []) C koX8 t0 (y_thrown hM3 hI) q779 q776 q777 q778 q9 rfl ⟨by decide, by decide⟩ (show (parseMethodDescriptor yX8_thrown.desc).map (fun d => d.parameters.length) = some 0 by decide +kernel) (by decide) (by decide) (by omega) (by omega) (Nat.le_of_ble_eq_true rfl) rfl dL_law_881 rfl ?_
      rintro v9 w4 ⟨rfl, rfl⟩
      show V g k 7 w2 (cells + 1) (slots + 6) Q 884 [(6, .int (nI 0)), (5, .int (nI 1)), (0, .ref b), (1, .ref a0), (2, .ref m0), (3, .ref ao), (4, .int (nI (10 * c)))] [.int (nI 1)]
      refine r_iload (q := 886) C 1 dL_law_884 rfl rfl ?_
      refine r_icmp_eq_t (tgt := 891) C dL_law_886 (by decide) (rfl) ?_
      refine r_iload (q := 893) C 1 dL_law_891 rfl rfl ?_
      refine r_if_ne_t (tgt := 908) C dL_law_893 (by decide) (by decide) ?_
      refine r_goto (tgt := 1010) C dL_law_908 (by decide) ?_
      refine r_sub (lv' := [(0, .ref b), (1, .ref a0), (2, .ref m0), (3, .ref ao), (4, .int (nI (10 * c)))]) [2, 3, 4, 5, 6] rfl ?_
      exact r_widen (by omega) (by omega) (kk w2 ⟨_, tk, gN, rN, tN, fn, wn, gp, by9, rD, tD, tV, tT, hT1.kept hI (fun t ht => hf3 t (by omega)), hM3, hU, hZ, _, (hf3 50 (by decide)).trans h51⟩)
    · have zb := z_byt_y (l := kxl k) hT hI h50 hk9 hi9
      rw [← e1, ← e2] at zb
      refine r_callSH (q := 860) (As := [.ref a0, .int (xs (10 * c + 1)), .int (xs (10 * c + 2)), .ref ao]) (st := []) C hX (zb) q603 q601 q602 q0 ⟨by decide, by decide⟩ (show (parseMethodDescriptor yL_byteAt.desc).map (fun d => d.parameters.length) = some 4 by decide +kernel) (by decide) (by decide) (by omega) (by omega) (Nat.le_of_ble_eq_true rfl) rfl dL_law_857 rfl ?_
      rintro v9 w1 ⟨rfl, ⟨fo', h51, hfo⟩, hT1, hf2⟩
      have hM1 := hM.kept (w' := w1) (fun t ht => hf2 t (by omega) (by omega))
      show V g k 7 w1 (cells + 1) (slots + 6) Q 860 [(0, .ref b), (1, .ref a0), (2, .ref m0), (3, .ref ao), (4, .int (nI (10 * c)))] [.int (nI 0)]
      refine r_istore (q := 862) (lv' := [(5, .int (nI 0)), (0, .ref b), (1, .ref a0), (2, .ref m0), (3, .ref ao), (4, .int (nI (10 * c)))]) C dL_law_860 (by decide) rfl rfl ?_
      refine r_aload_n (q := 863) C 3 dL_law_862 rfl rfl ?_
      refine r_aload_n (q := 864) C 1 dL_law_863 rfl rfl ?_
      refine r_iload (q := 866) C 5 dL_law_864 rfl rfl ?_
      refine r_iconst (q := 867) C (nI 1) dL_law_866 (by decide) rfl ?_
      refine r_iadd (q := 868) C dL_law_867 rfl ?_
      refine r_ti (show ((nI (10 * c)) + (nI 1) : Int32) = nI (10 * c + 1) from nI_add (10 * c) 1) ?_
      refine r_siald (q := 869) C hz (10 * c + 1) rfl (by omega) (by omega) dL_law_868 rfl ?_
      refine r_aload_n (q := 870) C 1 dL_law_869 rfl rfl ?_
      refine r_iload (q := 872) C 5 dL_law_870 rfl rfl ?_
      refine r_iconst (q := 873) C (nI 2) dL_law_872 (by decide) rfl ?_
      refine r_iadd (q := 874) C dL_law_873 rfl ?_
      refine r_ti (show ((nI (10 * c)) + (nI 2) : Int32) = nI (10 * c + 2) from nI_add (10 * c) 2) ?_
      refine r_siald (q := 875) C hz (10 * c + 2) rfl (by omega) (by omega) dL_law_874 rfl ?_
      obtain ⟨fs1, t0⟩ := hM1.zero
      have yb := y_byt_y (l := kxl k) hM1 hI hk9 hi9
      rw [← e1, ← e2] at yb
      refine r_callV (q := 878) (t := 0) (As := [.int (xs (10 * c + 1)), .int (xs (10 * c + 2))]) (st := []) C koX8 t0 (yb) q913 q910 q911 q912 q9 rfl ⟨by decide, by decide⟩ (show (parseMethodDescriptor yX8_byteAt.desc).map (fun d => d.parameters.length) = some 2 by decide +kernel) (by decide) (by decide) (by omega) (by omega) (Nat.le_of_ble_eq_true rfl) rfl dL_law_875 rfl ?_
      rintro v9 w2 ⟨rfl, hM3, hf3⟩
      obtain ⟨fs2, t0⟩ := hM3.zero
      show V g k 7 w2 (cells + 1) (slots + 6) Q 878 [(5, .int (nI 0)), (0, .ref b), (1, .ref a0), (2, .ref m0), (3, .ref ao), (4, .int (nI (10 * c)))] [.int (by9 (73 * k9 + i) &&& nI 255)]
      refine r_istore (q := 880) (lv' := [(6, .int (by9 (73 * k9 + i) &&& nI 255)), (5, .int (nI 0)), (0, .ref b), (1, .ref a0), (2, .ref m0), (3, .ref ao), (4, .int (nI (10 * c)))]) C dL_law_878 (by decide) rfl rfl ?_
      refine r_aload_n (q := 881) C 4 dL_law_880 rfl rfl ?_
      refine r_callV (q := 884) (t := 0) (As := []) (st := []) C koX8 t0 (y_thrown hM3 hI) q779 q776 q777 q778 q9 rfl ⟨by decide, by decide⟩ (show (parseMethodDescriptor yX8_thrown.desc).map (fun d => d.parameters.length) = some 0 by decide +kernel) (by decide) (by decide) (by omega) (by omega) (Nat.le_of_ble_eq_true rfl) rfl dL_law_881 rfl ?_
      rintro v9 w6 ⟨rfl, rfl⟩
      show V g k 7 w2 (cells + 1) (slots + 6) Q 884 [(6, .int (by9 (73 * k9 + i) &&& nI 255)), (5, .int (nI 0)), (0, .ref b), (1, .ref a0), (2, .ref m0), (3, .ref ao), (4, .int (nI (10 * c)))] [.int (nI 0)]
      refine r_iload (q := 886) C 1 dL_law_884 rfl rfl ?_
      refine r_icmp_eq_t (tgt := 891) C dL_law_886 (by decide) (rfl) ?_
      refine r_iload (q := 893) C 1 dL_law_891 rfl rfl ?_
      refine r_if_ne_f (q := 896) (tgt := 908) C dL_law_893 (by decide) rfl (by decide) ?_
      refine r_aload_n (q := 897) C 5 dL_law_896 rfl rfl ?_
      refine r_iconst (q := 898) C (nI 0) dL_law_897 (by decide) rfl ?_
      refine r_lald (q := 899) (t := 50) C ((hf3 50 (by decide)).trans h51) 0 rfl (by decide) (by decide) dL_law_898 rfl ?_
      refine r_iload (q := 901) C 0 dL_law_899 rfl rfl ?_
      refine r_i2l (q := 902) C dL_law_901 rfl ?_
      refine r_lcmp_eq (q := 903) (q2 := 906) (tgt := 908) C dL_law_902 rfl dL_law_903 (by decide) rfl (fun _ => ?_) (fun hz7 => absurd (hfo) (by first | exact hz7 | exact fun zz => zz hz7))
      refine r_goto (tgt := 1010) C dL_law_908 (by decide) ?_
      refine r_sub (lv' := [(0, .ref b), (1, .ref a0), (2, .ref m0), (3, .ref ao), (4, .int (nI (10 * c)))]) [2, 3, 4, 5, 6] rfl ?_
      exact r_widen (by omega) (by omega) (kk w2 ⟨_, tk, gN, rN, tN, fn, wn, gp, by9, rD, tD, tV, tT, hT1.kept hI (fun t ht => hf3 t (by omega)), hM3, hU, hZ, _, (hf3 50 (by decide)).trans h51⟩)
