/-- what holds all along the law -/
def l_ctx (p : Program) (l : Launch) (s : State) (m : MethodId) (args : Array Value) (meth : Method) (c : Code) (F : Nat → Prop) (g : z_G) (b Ln : Nat) (xs : Nat → Int32) : Prop :=
  z_C g mL_law p s m args meth c ∧ (∀ q, s.heap.size ≤ q → F q) ∧ z_Zq F s s.heap ∧ z_AC s ∧ va_X b Ln xs s s.heap ∧ b < s.heap.size ∧ ¬ F b ∧ Ln < 2 ^ 31 ∧ l.stackTraces = false
/-- class and reference agree -/
def l_I (A B : z_A) : Prop := ∃ n R m X, zCS A B ∧ zCR A n R m X ∧ z_box A 46 ∧ zMR A n R m X ∧ zVS n R m X
def l_L (ad : Nat → Nat) (b i : Nat) : List (Nat × Value) := [(4, .int (nI (5 * i))), (3, .ref (ad 54)), (2, .ref (ad 39)), (1, .ref (ad 0)), (0, .ref b)]
section LT
variable {p : Program} {l : Launch} {e : Env} {s : State} {m : MethodId} {args : Array Value} {below : List Frame} {meth : Method} {c : Code} {F : Nat → Prop} {Q : State → Prop} {g : z_G} {cn sn : Nat} {ad : Nat → Nat} {A B : z_A} {b Ln i : Nat} {xs : Nat → Int32}
theorem lb_type (hx0 : l_ctx p l s m args meth c F g b Ln xs) (hi : 5 * i + 5 ≤ Ln) (hI : l_I A B) (hcn : cn + 3 ≤ 601024) (hsn : sn + 18 ≤ 7293034) (kn : ∀ A' B', l_I A' B' → k_R p l e s m args below meth c F Q g mL_law room_1 (cn + 3) (sn + 18) 617 (l_L ad b i) [] (z_w g ad A' B')) : k_R p l e s m args below meth c F Q g mL_law room_1 cn sn 92 (l_L ad b i) [] (z_w g ad A B) := by
  obtain ⟨hC, hF, hZ, hA, hX, hbl, hbF, hLn, hst⟩ := hx0
  obtain ⟨n, R, m0, X, hcs, hcr, hbx, hmr, hv⟩ := hI
  obtain ⟨k, b0, n', R', m', X', hk, hb, hv', hW, hM⟩ := lo_type (l := l) (g := g) (ad := ad) hst hv (xs (5 * i + 1)) (xs (5 * i + 4)) (lN (fL (xs (5 * i + 2)) * 2 ^ 32 ||| fL (xs (5 * i + 3)) &&& 4294967295))
  obtain ⟨E1, hW1, hE1⟩ := hW A B hcs hcr
  unfold l_L at kn ⊢
  refine k_aload_n hC (pc := 92) dL_law_92 rfl rfl ?_
  refine k_aload_n hC (pc := 93) dL_law_93 rfl rfl ?_
  refine k_iload hC (pc := 94) dL_law_94 rfl ?_
  refine k_iconst hC (pc := 96) dL_law_96 zi_1 ?_
  refine k_iadd hC (pc := 97) dL_law_97 ?_
  refine k_sld hC hX hbl hbF hLn (by omega) (pc := 98) dL_law_98 ?_
  refine k_aload_n hC (pc := 99) dL_law_99 rfl rfl ?_
  refine k_iload hC (pc := 100) dL_law_100 rfl ?_
  refine k_iconst hC (pc := 102) dL_law_102 zi_2 ?_
  refine k_iadd hC (pc := 103) dL_law_103 ?_
  refine k_sld hC hX hbl hbF hLn (by omega) (pc := 104) dL_law_104 ?_
  refine k_i2lX hC (pc := 105) dL_law_105 ?_
  refine k_bipush hC (pc := 106) dL_law_106 zb_32 ?_
  refine k_lshl hC (pc := 108) dL_law_108 (by decide) ?_
  refine k_aload_n hC (pc := 109) dL_law_109 rfl rfl ?_
  refine k_iload hC (pc := 110) dL_law_110 rfl ?_
  refine k_iconst hC (pc := 112) dL_law_112 zi_3 ?_
  refine k_iadd hC (pc := 113) dL_law_113 ?_
  refine k_sld hC hX hbl hbF hLn (by omega) (pc := 114) dL_law_114 ?_
  refine k_i2lX hC (pc := 115) dL_law_115 ?_
  refine k_ldc2 hC (pc := 116) dL_law_116 wk_L_52 zk_L_52 ?_
  refine k_land hC (pc := 119) dL_law_119 ?_
  refine k_lor hC (pc := 120) dL_law_120 ?_
  refine k_aload_n hC (pc := 121) dL_law_121 rfl rfl ?_
  refine k_iload hC (pc := 122) dL_law_122 rfl ?_
  refine k_iconst hC (pc := 124) dL_law_124 zi_4 ?_
  refine k_iadd hC (pc := 125) dL_law_125 ?_
  refine k_sld hC hX hbl hbF hLn (by omega) (pc := 126) dL_law_126 ?_
  refine k_aload_n hC (pc := 127) dL_law_127 rfl rfl ?_
  refine l_callW hC hF hZ (pc := 128) hW1 (by decide) zcw_type rfl rfl (Nat.le_of_ble_eq_true rfl) ⟨hcn, hsn⟩ dL_law_128 (fun r A1 B1 hE => ?_)
  obtain ⟨rfl, ⟨f1, f2, cs1, cr1⟩, hb1⟩ := hE1 _ _ _ hE
  obtain ⟨E2, hM2, hE2⟩ := hM A1 B1 (z_box_mv f1 hbx) (zMR_mv f1 hmr)
  refine k_r1 hC ?_
  refine k_istore hC (L' := [(5, _), (4, _), (3, _), (2, _), (1, _), (0, _)]) (pc := 131) dL_law_131 (by decide) rfl ?_
  refine k_aload_n hC (pc := 133) dL_law_133 rfl rfl ?_
  refine k_aload_n hC (pc := 134) dL_law_134 rfl rfl ?_
  refine k_iload hC (pc := 135) dL_law_135 rfl ?_
  refine k_iconst hC (pc := 137) dL_law_137 zi_1 ?_
  refine k_iadd hC (pc := 138) dL_law_138 ?_
  refine k_sld hC hX hbl hbF hLn (by omega) (pc := 139) dL_law_139 ?_
  refine k_aload_n hC (pc := 140) dL_law_140 rfl rfl ?_
  refine k_iload hC (pc := 141) dL_law_141 rfl ?_
  refine k_iconst hC (pc := 143) dL_law_143 zi_2 ?_
  refine k_iadd hC (pc := 144) dL_law_144 ?_
  refine k_sld hC hX hbl hbF hLn (by omega) (pc := 145) dL_law_145 ?_
  refine k_i2lX hC (pc := 146) dL_law_146 ?_
  refine k_bipush hC (pc := 147) dL_law_147 zb_32 ?_
  refine k_lshl hC (pc := 149) dL_law_149 (by decide) ?_
  refine k_aload_n hC (pc := 150) dL_law_150 rfl rfl ?_
  refine k_iload hC (pc := 151) dL_law_151 rfl ?_
  refine k_iconst hC (pc := 153) dL_law_153 zi_3 ?_
  refine k_iadd hC (pc := 154) dL_law_154 ?_
  refine k_sld hC hX hbl hbF hLn (by omega) (pc := 155) dL_law_155 ?_
  refine k_i2lX hC (pc := 156) dL_law_156 ?_
  refine k_ldc2 hC (pc := 157) dL_law_157 wk_L_52 zk_L_52 ?_
  refine k_land hC (pc := 160) dL_law_160 ?_
  refine k_lor hC (pc := 161) dL_law_161 ?_
  refine k_aload_n hC (pc := 162) dL_law_162 rfl rfl ?_
  refine k_iload hC (pc := 163) dL_law_163 rfl ?_
  refine k_iconst hC (pc := 165) dL_law_165 zi_4 ?_
  refine k_iadd hC (pc := 166) dL_law_166 ?_
  refine k_sld hC hX hbl hbF hLn (by omega) (pc := 167) dL_law_167 ?_
  refine l_callV hC hF hZ (pc := 168) hM2 (by decide) zo_39 rfl zcm_type rfl rfl (Nat.le_of_ble_eq_true rfl) ⟨hcn, hsn⟩ dL_law_168 (fun r A2 B2 hE => ?_)
  obtain ⟨rfl, rfl, f3, ht2, bx2, mr2⟩ := hE2 _ _ _ hE
  refine k_r1 hC ?_
  refine k_istore hC (L' := [(6, _), (5, _), (4, _), (3, _), (2, _), (1, _), (0, _)]) (pc := 171) dL_law_171 (by decide) rfl ?_
  refine k_aload_n hC (pc := 173) dL_law_173 rfl rfl ?_
  refine l_callV hC hF hZ (pc := 174) m_thrown (by decide) zo_39 rfl zcm_thrown rfl rfl (Nat.le_of_ble_eq_true rfl) ⟨hcn, hsn⟩ dL_law_174 (fun r A9 B9 hE => ?_)
  obtain ⟨rfl, rfl, rfl⟩ := hE
  refine k_r1 hC (k_top hC (y := .int (nI k)) (by rw [ht2]) ?_)
  refine k_iload hC (pc := 177) dL_law_177 rfl ?_
  refine k_icmp_eq hC (pc := 179) (by omega) (by omega) (tgt := 184) dL_law_179 rfl (fun h => ?_) (fun h => absurd rfl h)
  refine k_iload hC (pc := 184) dL_law_184 rfl ?_
  refine k_if_ne hC (pc := 186) (by omega) (tgt := 201) dL_law_186 rfl (fun hk0 => ?_) (fun hk0 => ?_)
  · refine k_goto hC (pc := 201) (tgt := 617) dL_law_201 rfl ?_
    refine k_ls hC (L' := [(4, _), (3, _), (2, _), (1, _), (0, _)]) [2, 3, 4, 5, 6] rfl ?_
    exact kn _ _ ⟨n', R', m', X', zCS_mv (fun q hq => f3 q (Or.inl hq)) cs1, zCR_mv (fun q hq => f3 q (Or.inl hq)) cr1, bx2, mr2, hv'⟩
  · refine k_aload_n hC (pc := 189) dL_law_189 rfl rfl ?_
    refine k_iconst hC (pc := 190) dL_law_190 zi_0 ?_
    refine k_laload hC (k0 := 54) (by decide) rfl (by decide) (by decide) (pc := 191) dL_law_191 ?_
    refine k_iload hC (pc := 192) dL_law_192 rfl ?_
    refine k_i2l hC (pc := 194) dL_law_194 (by exact hb) ?_
    refine k_lcmp hC (pc := 195) dL_law_195 ?_
    refine k_top hC (y := .int (nI 0)) (by rw [hb1 b0 rfl (by omega), lg_cmp_self]) ?_
    refine k_if_eq hC (pc := 196) (by omega) (tgt := 201) dL_law_196 rfl (fun h => ?_) (fun h => absurd rfl h)
    refine k_goto hC (pc := 201) (tgt := 617) dL_law_201 rfl ?_
    refine k_ls hC (L' := [(4, _), (3, _), (2, _), (1, _), (0, _)]) [2, 3, 4, 5, 6] rfl ?_
    exact kn _ _ ⟨n', R', m', X', zCS_mv (fun q hq => f3 q (Or.inl hq)) cs1, zCR_mv (fun q hq => f3 q (Or.inl hq)) cr1, bx2, mr2, hv'⟩
theorem lb_clear (hx0 : l_ctx p l s m args meth c F g b Ln xs) (hi : 5 * i + 5 ≤ Ln) (hI : l_I A B) (hcn : cn + 3 ≤ 601024) (hsn : sn + 18 ≤ 7293034) (kn : ∀ A' B', l_I A' B' → k_R p l e s m args below meth c F Q g mL_law room_1 (cn + 3) (sn + 18) 617 (l_L ad b i) [] (z_w g ad A' B')) : k_R p l e s m args below meth c F Q g mL_law room_1 cn sn 204 (l_L ad b i) [] (z_w g ad A B) := by
  obtain ⟨hC, hF, hZ, hA, hX, hbl, hbF, hLn, hst⟩ := hx0
  obtain ⟨n, R, m0, X, hcs, hcr, hbx, hmr, hv⟩ := hI
  obtain ⟨k, b0, n', R', m', X', hk, hb, hv', hW, hM⟩ := lo_clear (l := l) (g := g) (ad := ad) hst hv (xs (5 * i + 1))
  obtain ⟨E1, hW1, hE1⟩ := hW A B hcs hcr
  unfold l_L at kn ⊢
  refine k_aload_n hC (pc := 204) dL_law_204 rfl rfl ?_
  refine k_aload_n hC (pc := 205) dL_law_205 rfl rfl ?_
  refine k_iload hC (pc := 206) dL_law_206 rfl ?_
  refine k_iconst hC (pc := 208) dL_law_208 zi_1 ?_
  refine k_iadd hC (pc := 209) dL_law_209 ?_
  refine k_sld hC hX hbl hbF hLn (by omega) (pc := 210) dL_law_210 ?_
  refine k_aload_n hC (pc := 211) dL_law_211 rfl rfl ?_
  refine l_callW hC hF hZ (pc := 212) hW1 (by decide) zcw_clear rfl rfl (Nat.le_of_ble_eq_true rfl) ⟨hcn, hsn⟩ dL_law_212 (fun r A1 B1 hE => ?_)
  obtain ⟨rfl, ⟨f1, f2, cs1, cr1⟩, hb1⟩ := hE1 _ _ _ hE
  obtain ⟨E2, hM2, hE2⟩ := hM A1 B1 (z_box_mv f1 hbx) (zMR_mv f1 hmr)
  refine k_r1 hC ?_
  refine k_istore hC (L' := [(5, _), (4, _), (3, _), (2, _), (1, _), (0, _)]) (pc := 215) dL_law_215 (by decide) rfl ?_
  refine k_aload_n hC (pc := 217) dL_law_217 rfl rfl ?_
  refine k_aload_n hC (pc := 218) dL_law_218 rfl rfl ?_
  refine k_iload hC (pc := 219) dL_law_219 rfl ?_
  refine k_iconst hC (pc := 221) dL_law_221 zi_1 ?_
  refine k_iadd hC (pc := 222) dL_law_222 ?_
  refine k_sld hC hX hbl hbF hLn (by omega) (pc := 223) dL_law_223 ?_
  refine l_callV hC hF hZ (pc := 224) hM2 (by decide) zo_39 rfl zcm_clear rfl rfl (Nat.le_of_ble_eq_true rfl) ⟨hcn, hsn⟩ dL_law_224 (fun r A2 B2 hE => ?_)
  obtain ⟨rfl, rfl, f3, ht2, bx2, mr2⟩ := hE2 _ _ _ hE
  refine k_r1 hC ?_
  refine k_istore hC (L' := [(6, _), (5, _), (4, _), (3, _), (2, _), (1, _), (0, _)]) (pc := 227) dL_law_227 (by decide) rfl ?_
  refine k_aload_n hC (pc := 229) dL_law_229 rfl rfl ?_
  refine l_callV hC hF hZ (pc := 230) m_thrown (by decide) zo_39 rfl zcm_thrown rfl rfl (Nat.le_of_ble_eq_true rfl) ⟨hcn, hsn⟩ dL_law_230 (fun r A9 B9 hE => ?_)
  obtain ⟨rfl, rfl, rfl⟩ := hE
  refine k_r1 hC (k_top hC (y := .int (nI k)) (by rw [ht2]) ?_)
  refine k_iload hC (pc := 233) dL_law_233 rfl ?_
  refine k_icmp_eq hC (pc := 235) (by omega) (by omega) (tgt := 240) dL_law_235 rfl (fun h => ?_) (fun h => absurd rfl h)
  refine k_iload hC (pc := 240) dL_law_240 rfl ?_
  refine k_if_ne hC (pc := 242) (by omega) (tgt := 257) dL_law_242 rfl (fun hk0 => ?_) (fun hk0 => ?_)
  · refine k_goto hC (pc := 257) (tgt := 617) dL_law_257 rfl ?_
    refine k_ls hC (L' := [(4, _), (3, _), (2, _), (1, _), (0, _)]) [2, 3, 4, 5, 6] rfl ?_
    exact kn _ _ ⟨n', R', m', X', zCS_mv (fun q hq => f3 q (Or.inl hq)) cs1, zCR_mv (fun q hq => f3 q (Or.inl hq)) cr1, bx2, mr2, hv'⟩
  · refine k_aload_n hC (pc := 245) dL_law_245 rfl rfl ?_
    refine k_iconst hC (pc := 246) dL_law_246 zi_0 ?_
    refine k_laload hC (k0 := 54) (by decide) rfl (by decide) (by decide) (pc := 247) dL_law_247 ?_
    refine k_iload hC (pc := 248) dL_law_248 rfl ?_
    refine k_i2l hC (pc := 250) dL_law_250 (by exact hb) ?_
    refine k_lcmp hC (pc := 251) dL_law_251 ?_
    refine k_top hC (y := .int (nI 0)) (by rw [hb1 b0 rfl (by omega), lg_cmp_self]) ?_
    refine k_if_eq hC (pc := 252) (by omega) (tgt := 257) dL_law_252 rfl (fun h => ?_) (fun h => absurd rfl h)
    refine k_goto hC (pc := 257) (tgt := 617) dL_law_257 rfl ?_
    refine k_ls hC (L' := [(4, _), (3, _), (2, _), (1, _), (0, _)]) [2, 3, 4, 5, 6] rfl ?_
    exact kn _ _ ⟨n', R', m', X', zCS_mv (fun q hq => f3 q (Or.inl hq)) cs1, zCR_mv (fun q hq => f3 q (Or.inl hq)) cr1, bx2, mr2, hv'⟩
theorem lb_poke (hx0 : l_ctx p l s m args meth c F g b Ln xs) (hi : 5 * i + 5 ≤ Ln) (hI : l_I A B) (hcn : cn + 3 ≤ 601024) (hsn : sn + 18 ≤ 7293034) (kn : ∀ A' B', l_I A' B' → k_R p l e s m args below meth c F Q g mL_law room_1 (cn + 3) (sn + 18) 617 (l_L ad b i) [] (z_w g ad A' B')) : k_R p l e s m args below meth c F Q g mL_law room_1 cn sn 260 (l_L ad b i) [] (z_w g ad A B) := by
  obtain ⟨hC, hF, hZ, hA, hX, hbl, hbF, hLn, hst⟩ := hx0
  obtain ⟨n, R, m0, X, hcs, hcr, hbx, hmr, hv⟩ := hI
  obtain ⟨k, b0, n', R', m', X', hk, hb, hv', hW, hM⟩ := lo_poke (l := l) (g := g) (ad := ad) hst hv (xs (5 * i + 1)) (xs (5 * i + 2)) (xs (5 * i + 3))
  obtain ⟨E1, hW1, hE1⟩ := hW A B hcs hcr
  unfold l_L at kn ⊢
  refine k_aload_n hC (pc := 260) dL_law_260 rfl rfl ?_
  refine k_aload_n hC (pc := 261) dL_law_261 rfl rfl ?_
  refine k_iload hC (pc := 262) dL_law_262 rfl ?_
  refine k_iconst hC (pc := 264) dL_law_264 zi_1 ?_
  refine k_iadd hC (pc := 265) dL_law_265 ?_
  refine k_sld hC hX hbl hbF hLn (by omega) (pc := 266) dL_law_266 ?_
  refine k_aload_n hC (pc := 267) dL_law_267 rfl rfl ?_
  refine k_iload hC (pc := 268) dL_law_268 rfl ?_
  refine k_iconst hC (pc := 270) dL_law_270 zi_2 ?_
  refine k_iadd hC (pc := 271) dL_law_271 ?_
  refine k_sld hC hX hbl hbF hLn (by omega) (pc := 272) dL_law_272 ?_
  refine k_aload_n hC (pc := 273) dL_law_273 rfl rfl ?_
  refine k_iload hC (pc := 274) dL_law_274 rfl ?_
  refine k_iconst hC (pc := 276) dL_law_276 zi_3 ?_
  refine k_iadd hC (pc := 277) dL_law_277 ?_
  refine k_sld hC hX hbl hbF hLn (by omega) (pc := 278) dL_law_278 ?_
  refine l_callW hC hF hZ (pc := 279) hW1 (by decide) zcw_poke rfl rfl (Nat.le_of_ble_eq_true rfl) ⟨hcn, hsn⟩ dL_law_279 (fun r A1 B1 hE => ?_)
  obtain ⟨rfl, ⟨f1, f2, cs1, cr1⟩, hb1⟩ := hE1 _ _ _ hE
  obtain ⟨E2, hM2, hE2⟩ := hM A1 B1 (z_box_mv f1 hbx) (zMR_mv f1 hmr)
  refine k_r1 hC ?_
  refine k_istore hC (L' := [(5, _), (4, _), (3, _), (2, _), (1, _), (0, _)]) (pc := 282) dL_law_282 (by decide) rfl ?_
  refine k_aload_n hC (pc := 284) dL_law_284 rfl rfl ?_
  refine k_aload_n hC (pc := 285) dL_law_285 rfl rfl ?_
  refine k_iload hC (pc := 286) dL_law_286 rfl ?_
  refine k_iconst hC (pc := 288) dL_law_288 zi_1 ?_
  refine k_iadd hC (pc := 289) dL_law_289 ?_
  refine k_sld hC hX hbl hbF hLn (by omega) (pc := 290) dL_law_290 ?_
  refine k_aload_n hC (pc := 291) dL_law_291 rfl rfl ?_
  refine k_iload hC (pc := 292) dL_law_292 rfl ?_
  refine k_iconst hC (pc := 294) dL_law_294 zi_2 ?_
  refine k_iadd hC (pc := 295) dL_law_295 ?_
  refine k_sld hC hX hbl hbF hLn (by omega) (pc := 296) dL_law_296 ?_
  refine k_aload_n hC (pc := 297) dL_law_297 rfl rfl ?_
  refine k_iload hC (pc := 298) dL_law_298 rfl ?_
  refine k_iconst hC (pc := 300) dL_law_300 zi_3 ?_
  refine k_iadd hC (pc := 301) dL_law_301 ?_
  refine k_sld hC hX hbl hbF hLn (by omega) (pc := 302) dL_law_302 ?_
  refine l_callV hC hF hZ (pc := 303) hM2 (by decide) zo_39 rfl zcm_poke rfl rfl (Nat.le_of_ble_eq_true rfl) ⟨hcn, hsn⟩ dL_law_303 (fun r A2 B2 hE => ?_)
  obtain ⟨rfl, rfl, f3, ht2, bx2, mr2⟩ := hE2 _ _ _ hE
  refine k_r0 hC ?_
  refine k_aload_n hC (pc := 306) dL_law_306 rfl rfl ?_
  refine l_callV hC hF hZ (pc := 307) m_thrown (by decide) zo_39 rfl zcm_thrown rfl rfl (Nat.le_of_ble_eq_true rfl) ⟨hcn, hsn⟩ dL_law_307 (fun r A9 B9 hE => ?_)
  obtain ⟨rfl, rfl, rfl⟩ := hE
  refine k_r1 hC (k_top hC (y := .int (nI k)) (by rw [ht2]) ?_)
  refine k_iload hC (pc := 310) dL_law_310 rfl ?_
  refine k_icmp_eq hC (pc := 312) (by omega) (by omega) (tgt := 317) dL_law_312 rfl (fun h => ?_) (fun h => absurd rfl h)
  refine k_goto hC (pc := 317) (tgt := 617) dL_law_317 rfl ?_
  refine k_ls hC (L' := [(4, _), (3, _), (2, _), (1, _), (0, _)]) [1, 2, 3, 4, 5] rfl ?_
  exact kn _ _ ⟨n', R', m', X', zCS_mv (fun q hq => f3 q (Or.inl hq)) cs1, zCR_mv (fun q hq => f3 q (Or.inl hq)) cr1, bx2, mr2, hv'⟩
theorem lb_take (hx0 : l_ctx p l s m args meth c F g b Ln xs) (hi : 5 * i + 5 ≤ Ln) (hI : l_I A B) (hcn : cn + 3 ≤ 601024) (hsn : sn + 18 ≤ 7293034) (kn : ∀ A' B', l_I A' B' → k_R p l e s m args below meth c F Q g mL_law room_1 (cn + 3) (sn + 18) 617 (l_L ad b i) [] (z_w g ad A' B')) : k_R p l e s m args below meth c F Q g mL_law room_1 cn sn 320 (l_L ad b i) [] (z_w g ad A B) := by
  obtain ⟨hC, hF, hZ, hA, hX, hbl, hbF, hLn, hst⟩ := hx0
  obtain ⟨n, R, m0, X, hcs, hcr, hbx, hmr, hv⟩ := hI
  obtain ⟨k, b0, n', R', m', X', hk, hb, hv', hW, hM⟩ := lo_take (l := l) (g := g) (ad := ad) hst hv (xs (5 * i + 1))
  obtain ⟨E1, hW1, hE1⟩ := hW A B hcs hcr
  unfold l_L at kn ⊢
  refine k_aload_n hC (pc := 320) dL_law_320 rfl rfl ?_
  refine k_aload_n hC (pc := 321) dL_law_321 rfl rfl ?_
  refine k_iload hC (pc := 322) dL_law_322 rfl ?_
  refine k_iconst hC (pc := 324) dL_law_324 zi_1 ?_
  refine k_iadd hC (pc := 325) dL_law_325 ?_
  refine k_sld hC hX hbl hbF hLn (by omega) (pc := 326) dL_law_326 ?_
  refine k_aload_n hC (pc := 327) dL_law_327 rfl rfl ?_
  refine l_callW hC hF hZ (pc := 328) hW1 (by decide) zcw_take rfl rfl (Nat.le_of_ble_eq_true rfl) ⟨hcn, hsn⟩ dL_law_328 (fun r A1 B1 hE => ?_)
  obtain ⟨rfl, ⟨f1, f2, cs1, cr1⟩, hb1⟩ := hE1 _ _ _ hE
  obtain ⟨E2, hM2, hE2⟩ := hM A1 B1 (z_box_mv f1 hbx) (zMR_mv f1 hmr)
  refine k_r1 hC ?_
  refine k_istore hC (L' := [(5, _), (4, _), (3, _), (2, _), (1, _), (0, _)]) (pc := 331) dL_law_331 (by decide) rfl ?_
  refine k_aload_n hC (pc := 333) dL_law_333 rfl rfl ?_
  refine k_aload_n hC (pc := 334) dL_law_334 rfl rfl ?_
  refine k_iload hC (pc := 335) dL_law_335 rfl ?_
  refine k_iconst hC (pc := 337) dL_law_337 zi_1 ?_
  refine k_iadd hC (pc := 338) dL_law_338 ?_
  refine k_sld hC hX hbl hbF hLn (by omega) (pc := 339) dL_law_339 ?_
  refine l_callV hC hF hZ (pc := 340) hM2 (by decide) zo_39 rfl zcm_take rfl rfl (Nat.le_of_ble_eq_true rfl) ⟨hcn, hsn⟩ dL_law_340 (fun r A2 B2 hE => ?_)
  obtain ⟨rfl, rfl, f3, ht2, bx2, mr2⟩ := hE2 _ _ _ hE
  refine k_r1 hC ?_
  refine k_istore hC (L' := [(6, _), (5, _), (4, _), (3, _), (2, _), (1, _), (0, _)]) (pc := 343) dL_law_343 (by decide) rfl ?_
  refine k_aload_n hC (pc := 345) dL_law_345 rfl rfl ?_
  refine l_callV hC hF hZ (pc := 346) m_thrown (by decide) zo_39 rfl zcm_thrown rfl rfl (Nat.le_of_ble_eq_true rfl) ⟨hcn, hsn⟩ dL_law_346 (fun r A9 B9 hE => ?_)
  obtain ⟨rfl, rfl, rfl⟩ := hE
  refine k_r1 hC (k_top hC (y := .int (nI k)) (by rw [ht2]) ?_)
  refine k_iload hC (pc := 349) dL_law_349 rfl ?_
  refine k_icmp_eq hC (pc := 351) (by omega) (by omega) (tgt := 356) dL_law_351 rfl (fun h => ?_) (fun h => absurd rfl h)
  refine k_iload hC (pc := 356) dL_law_356 rfl ?_
  refine k_if_ne hC (pc := 358) (by omega) (tgt := 373) dL_law_358 rfl (fun hk0 => ?_) (fun hk0 => ?_)
  · refine k_goto hC (pc := 373) (tgt := 617) dL_law_373 rfl ?_
    refine k_ls hC (L' := [(4, _), (3, _), (2, _), (1, _), (0, _)]) [2, 3, 4, 5, 6] rfl ?_
    exact kn _ _ ⟨n', R', m', X', zCS_mv (fun q hq => f3 q (Or.inl hq)) cs1, zCR_mv (fun q hq => f3 q (Or.inl hq)) cr1, bx2, mr2, hv'⟩
  · refine k_aload_n hC (pc := 361) dL_law_361 rfl rfl ?_
    refine k_iconst hC (pc := 362) dL_law_362 zi_0 ?_
    refine k_laload hC (k0 := 54) (by decide) rfl (by decide) (by decide) (pc := 363) dL_law_363 ?_
    refine k_iload hC (pc := 364) dL_law_364 rfl ?_
    refine k_i2l hC (pc := 366) dL_law_366 (by exact hb) ?_
    refine k_lcmp hC (pc := 367) dL_law_367 ?_
    refine k_top hC (y := .int (nI 0)) (by rw [hb1 b0 rfl (by omega), lg_cmp_self]) ?_
    refine k_if_eq hC (pc := 368) (by omega) (tgt := 373) dL_law_368 rfl (fun h => ?_) (fun h => absurd rfl h)
    refine k_goto hC (pc := 373) (tgt := 617) dL_law_373 rfl ?_
    refine k_ls hC (L' := [(4, _), (3, _), (2, _), (1, _), (0, _)]) [2, 3, 4, 5, 6] rfl ?_
    exact kn _ _ ⟨n', R', m', X', zCS_mv (fun q hq => f3 q (Or.inl hq)) cs1, zCR_mv (fun q hq => f3 q (Or.inl hq)) cr1, bx2, mr2, hv'⟩
theorem lb_block (hx0 : l_ctx p l s m args meth c F g b Ln xs) (hi : 5 * i + 5 ≤ Ln) (hI : l_I A B) (hcn : cn + 3 ≤ 601024) (hsn : sn + 18 ≤ 7293034) (kn : ∀ A' B', l_I A' B' → k_R p l e s m args below meth c F Q g mL_law room_1 (cn + 3) (sn + 18) 617 (l_L ad b i) [] (z_w g ad A' B')) : k_R p l e s m args below meth c F Q g mL_law room_1 cn sn 376 (l_L ad b i) [] (z_w g ad A B) := by
  obtain ⟨hC, hF, hZ, hA, hX, hbl, hbF, hLn, hst⟩ := hx0
  obtain ⟨n, R, m0, X, hcs, hcr, hbx, hmr, hv⟩ := hI
  obtain ⟨k, b0, n', R', m', X', hk, hb, hv', hW, hM⟩ := lo_block (l := l) (g := g) (ad := ad) hst hv 
  obtain ⟨E1, hW1, hE1⟩ := hW A B hcs hcr
  unfold l_L at kn ⊢
  refine k_aload_n hC (pc := 376) dL_law_376 rfl rfl ?_
  refine l_callW hC hF hZ (pc := 377) hW1 (by decide) zcw_block rfl rfl (Nat.le_of_ble_eq_true rfl) ⟨hcn, hsn⟩ dL_law_377 (fun r A1 B1 hE => ?_)
  obtain ⟨rfl, ⟨f1, f2, cs1, cr1⟩, hb1⟩ := hE1 _ _ _ hE
  obtain ⟨E2, hM2, hE2⟩ := hM A1 B1 (z_box_mv f1 hbx) (zMR_mv f1 hmr)
  refine k_r1 hC ?_
  refine k_istore hC (L' := [(5, _), (4, _), (3, _), (2, _), (1, _), (0, _)]) (pc := 380) dL_law_380 (by decide) rfl ?_
  refine k_aload_n hC (pc := 382) dL_law_382 rfl rfl ?_
  refine l_callV hC hF hZ (pc := 383) hM2 (by decide) zo_39 rfl zcm_block rfl rfl (Nat.le_of_ble_eq_true rfl) ⟨hcn, hsn⟩ dL_law_383 (fun r A2 B2 hE => ?_)
  obtain ⟨rfl, rfl, f3, ht2, bx2, mr2⟩ := hE2 _ _ _ hE
  refine k_r0 hC ?_
  refine k_aload_n hC (pc := 386) dL_law_386 rfl rfl ?_
  refine l_callV hC hF hZ (pc := 387) m_thrown (by decide) zo_39 rfl zcm_thrown rfl rfl (Nat.le_of_ble_eq_true rfl) ⟨hcn, hsn⟩ dL_law_387 (fun r A9 B9 hE => ?_)
  obtain ⟨rfl, rfl, rfl⟩ := hE
  refine k_r1 hC (k_top hC (y := .int (nI k)) (by rw [ht2]) ?_)
  refine k_iload hC (pc := 390) dL_law_390 rfl ?_
  refine k_icmp_eq hC (pc := 392) (by omega) (by omega) (tgt := 397) dL_law_392 rfl (fun h => ?_) (fun h => absurd rfl h)
  refine k_goto hC (pc := 397) (tgt := 617) dL_law_397 rfl ?_
  refine k_ls hC (L' := [(4, _), (3, _), (2, _), (1, _), (0, _)]) [1, 2, 3, 4, 5] rfl ?_
  exact kn _ _ ⟨n', R', m', X', zCS_mv (fun q hq => f3 q (Or.inl hq)) cs1, zCR_mv (fun q hq => f3 q (Or.inl hq)) cr1, bx2, mr2, hv'⟩
theorem lb_hash (hx0 : l_ctx p l s m args meth c F g b Ln xs) (hi : 5 * i + 5 ≤ Ln) (hI : l_I A B) (hcn : cn + 3 ≤ 601024) (hsn : sn + 18 ≤ 7293034) (kn : ∀ A' B', l_I A' B' → k_R p l e s m args below meth c F Q g mL_law room_1 (cn + 3) (sn + 18) 617 (l_L ad b i) [] (z_w g ad A' B')) : k_R p l e s m args below meth c F Q g mL_law room_1 cn sn 400 (l_L ad b i) [] (z_w g ad A B) := by
  obtain ⟨hC, hF, hZ, hA, hX, hbl, hbF, hLn, hst⟩ := hx0
  obtain ⟨n, R, m0, X, hcs, hcr, hbx, hmr, hv⟩ := hI
  obtain ⟨k, b0, n', R', m', X', hk, hb, hv', hW, hM⟩ := lo_hash (l := l) (g := g) (ad := ad) hst hv (xs (5 * i + 1))
  obtain ⟨E1, hW1, hE1⟩ := hW A B hcs hcr
  unfold l_L at kn ⊢
  refine k_aload_n hC (pc := 400) dL_law_400 rfl rfl ?_
  refine k_aload_n hC (pc := 401) dL_law_401 rfl rfl ?_
  refine k_iload hC (pc := 402) dL_law_402 rfl ?_
  refine k_iconst hC (pc := 404) dL_law_404 zi_1 ?_
  refine k_iadd hC (pc := 405) dL_law_405 ?_
  refine k_sld hC hX hbl hbF hLn (by omega) (pc := 406) dL_law_406 ?_
  refine l_callW hC hF hZ (pc := 407) hW1 (by decide) zcw_hash rfl rfl (Nat.le_of_ble_eq_true rfl) ⟨hcn, hsn⟩ dL_law_407 (fun r A1 B1 hE => ?_)
  obtain ⟨rfl, ⟨f1, f2, cs1, cr1⟩, hb1⟩ := hE1 _ _ _ hE
  obtain ⟨E2, hM2, hE2⟩ := hM A1 B1 (z_box_mv f1 hbx) (zMR_mv f1 hmr)
  refine k_r1 hC ?_
  refine k_istore hC (L' := [(5, _), (4, _), (3, _), (2, _), (1, _), (0, _)]) (pc := 410) dL_law_410 (by decide) rfl ?_
  refine k_aload_n hC (pc := 412) dL_law_412 rfl rfl ?_
  refine k_aload_n hC (pc := 413) dL_law_413 rfl rfl ?_
  refine k_iload hC (pc := 414) dL_law_414 rfl ?_
  refine k_iconst hC (pc := 416) dL_law_416 zi_1 ?_
  refine k_iadd hC (pc := 417) dL_law_417 ?_
  refine k_sld hC hX hbl hbF hLn (by omega) (pc := 418) dL_law_418 ?_
  refine l_callV hC hF hZ (pc := 419) hM2 (by decide) zo_39 rfl zcm_hash rfl rfl (Nat.le_of_ble_eq_true rfl) ⟨hcn, hsn⟩ dL_law_419 (fun r A2 B2 hE => ?_)
  obtain ⟨rfl, rfl, f3, ht2, bx2, mr2⟩ := hE2 _ _ _ hE
  refine k_r0 hC ?_
  refine k_aload_n hC (pc := 422) dL_law_422 rfl rfl ?_
  refine l_callV hC hF hZ (pc := 423) m_thrown (by decide) zo_39 rfl zcm_thrown rfl rfl (Nat.le_of_ble_eq_true rfl) ⟨hcn, hsn⟩ dL_law_423 (fun r A9 B9 hE => ?_)
  obtain ⟨rfl, rfl, rfl⟩ := hE
  refine k_r1 hC (k_top hC (y := .int (nI k)) (by rw [ht2]) ?_)
  refine k_iload hC (pc := 426) dL_law_426 rfl ?_
  refine k_icmp_eq hC (pc := 428) (by omega) (by omega) (tgt := 433) dL_law_428 rfl (fun h => ?_) (fun h => absurd rfl h)
  refine k_goto hC (pc := 433) (tgt := 617) dL_law_433 rfl ?_
  refine k_ls hC (L' := [(4, _), (3, _), (2, _), (1, _), (0, _)]) [1, 2, 3, 4, 5] rfl ?_
  exact kn _ _ ⟨n', R', m', X', zCS_mv (fun q hq => f3 q (Or.inl hq)) cs1, zCR_mv (fun q hq => f3 q (Or.inl hq)) cr1, bx2, mr2, hv'⟩
theorem lb_seal (hx0 : l_ctx p l s m args meth c F g b Ln xs) (hi : 5 * i + 5 ≤ Ln) (hI : l_I A B) (hcn : cn + 3 ≤ 601024) (hsn : sn + 18 ≤ 7293034) (kn : ∀ A' B', l_I A' B' → k_R p l e s m args below meth c F Q g mL_law room_1 (cn + 3) (sn + 18) 617 (l_L ad b i) [] (z_w g ad A' B')) : k_R p l e s m args below meth c F Q g mL_law room_1 cn sn 436 (l_L ad b i) [] (z_w g ad A B) := by
  obtain ⟨hC, hF, hZ, hA, hX, hbl, hbF, hLn, hst⟩ := hx0
  obtain ⟨n, R, m0, X, hcs, hcr, hbx, hmr, hv⟩ := hI
  obtain ⟨k, b0, n', R', m', X', hk, hb, hv', hW, hM⟩ := lo_seal (l := l) (g := g) (ad := ad) hst hv (xs (5 * i + 1))
  obtain ⟨E1, hW1, hE1⟩ := hW A B hcs hcr
  unfold l_L at kn ⊢
  refine k_aload_n hC (pc := 436) dL_law_436 rfl rfl ?_
  refine k_aload_n hC (pc := 437) dL_law_437 rfl rfl ?_
  refine k_iload hC (pc := 438) dL_law_438 rfl ?_
  refine k_iconst hC (pc := 440) dL_law_440 zi_1 ?_
  refine k_iadd hC (pc := 441) dL_law_441 ?_
  refine k_sld hC hX hbl hbF hLn (by omega) (pc := 442) dL_law_442 ?_
  refine k_aload_n hC (pc := 443) dL_law_443 rfl rfl ?_
  refine l_callW hC hF hZ (pc := 444) hW1 (by decide) zcw_seal rfl rfl (Nat.le_of_ble_eq_true rfl) ⟨hcn, hsn⟩ dL_law_444 (fun r A1 B1 hE => ?_)
  obtain ⟨rfl, ⟨f1, f2, cs1, cr1⟩, hb1⟩ := hE1 _ _ _ hE
  obtain ⟨E2, hM2, hE2⟩ := hM A1 B1 (z_box_mv f1 hbx) (zMR_mv f1 hmr)
  refine k_r1 hC ?_
  refine k_istore hC (L' := [(5, _), (4, _), (3, _), (2, _), (1, _), (0, _)]) (pc := 447) dL_law_447 (by decide) rfl ?_
  refine k_aload_n hC (pc := 449) dL_law_449 rfl rfl ?_
  refine k_aload_n hC (pc := 450) dL_law_450 rfl rfl ?_
  refine k_iload hC (pc := 451) dL_law_451 rfl ?_
  refine k_iconst hC (pc := 453) dL_law_453 zi_1 ?_
  refine k_iadd hC (pc := 454) dL_law_454 ?_
  refine k_sld hC hX hbl hbF hLn (by omega) (pc := 455) dL_law_455 ?_
  refine l_callV hC hF hZ (pc := 456) hM2 (by decide) zo_39 rfl zcm_seal rfl rfl (Nat.le_of_ble_eq_true rfl) ⟨hcn, hsn⟩ dL_law_456 (fun r A2 B2 hE => ?_)
  obtain ⟨rfl, rfl, f3, ht2, bx2, mr2⟩ := hE2 _ _ _ hE
  refine k_r1 hC ?_
  refine k_istore hC (L' := [(6, _), (5, _), (4, _), (3, _), (2, _), (1, _), (0, _)]) (pc := 459) dL_law_459 (by decide) rfl ?_
  refine k_aload_n hC (pc := 461) dL_law_461 rfl rfl ?_
  refine l_callV hC hF hZ (pc := 462) m_thrown (by decide) zo_39 rfl zcm_thrown rfl rfl (Nat.le_of_ble_eq_true rfl) ⟨hcn, hsn⟩ dL_law_462 (fun r A9 B9 hE => ?_)
  obtain ⟨rfl, rfl, rfl⟩ := hE
  refine k_r1 hC (k_top hC (y := .int (nI k)) (by rw [ht2]) ?_)
  refine k_iload hC (pc := 465) dL_law_465 rfl ?_
  refine k_icmp_eq hC (pc := 467) (by omega) (by omega) (tgt := 472) dL_law_467 rfl (fun h => ?_) (fun h => absurd rfl h)
  refine k_iload hC (pc := 472) dL_law_472 rfl ?_
  refine k_if_ne hC (pc := 474) (by omega) (tgt := 489) dL_law_474 rfl (fun hk0 => ?_) (fun hk0 => ?_)
  · refine k_goto hC (pc := 489) (tgt := 617) dL_law_489 rfl ?_
    refine k_ls hC (L' := [(4, _), (3, _), (2, _), (1, _), (0, _)]) [2, 3, 4, 5, 6] rfl ?_
    exact kn _ _ ⟨n', R', m', X', zCS_mv (fun q hq => f3 q (Or.inl hq)) cs1, zCR_mv (fun q hq => f3 q (Or.inl hq)) cr1, bx2, mr2, hv'⟩
  · refine k_aload_n hC (pc := 477) dL_law_477 rfl rfl ?_
    refine k_iconst hC (pc := 478) dL_law_478 zi_0 ?_
    refine k_laload hC (k0 := 54) (by decide) rfl (by decide) (by decide) (pc := 479) dL_law_479 ?_
    refine k_iload hC (pc := 480) dL_law_480 rfl ?_
    refine k_i2l hC (pc := 482) dL_law_482 (by exact hb) ?_
    refine k_lcmp hC (pc := 483) dL_law_483 ?_
    refine k_top hC (y := .int (nI 0)) (by rw [hb1 b0 rfl (by omega), lg_cmp_self]) ?_
    refine k_if_eq hC (pc := 484) (by omega) (tgt := 489) dL_law_484 rfl (fun h => ?_) (fun h => absurd rfl h)
    refine k_goto hC (pc := 489) (tgt := 617) dL_law_489 rfl ?_
    refine k_ls hC (L' := [(4, _), (3, _), (2, _), (1, _), (0, _)]) [2, 3, 4, 5, 6] rfl ?_
    exact kn _ _ ⟨n', R', m', X', zCS_mv (fun q hq => f3 q (Or.inl hq)) cs1, zCR_mv (fun q hq => f3 q (Or.inl hq)) cr1, bx2, mr2, hv'⟩
theorem lb_open (hx0 : l_ctx p l s m args meth c F g b Ln xs) (hi : 5 * i + 5 ≤ Ln) (hI : l_I A B) (hcn : cn + 3 ≤ 601024) (hsn : sn + 18 ≤ 7293034) (kn : ∀ A' B', l_I A' B' → k_R p l e s m args below meth c F Q g mL_law room_1 (cn + 3) (sn + 18) 617 (l_L ad b i) [] (z_w g ad A' B')) : k_R p l e s m args below meth c F Q g mL_law room_1 cn sn 492 (l_L ad b i) [] (z_w g ad A B) := by
  obtain ⟨hC, hF, hZ, hA, hX, hbl, hbF, hLn, hst⟩ := hx0
  obtain ⟨n, R, m0, X, hcs, hcr, hbx, hmr, hv⟩ := hI
  obtain ⟨k, b0, n', R', m', X', hk, hb, hv', hW, hM⟩ := lo_open (l := l) (g := g) (ad := ad) hst hv (xs (5 * i + 1))
  obtain ⟨E1, hW1, hE1⟩ := hW A B hcs hcr
  unfold l_L at kn ⊢
  refine k_aload_n hC (pc := 492) dL_law_492 rfl rfl ?_
  refine k_aload_n hC (pc := 493) dL_law_493 rfl rfl ?_
  refine k_iload hC (pc := 494) dL_law_494 rfl ?_
  refine k_iconst hC (pc := 496) dL_law_496 zi_1 ?_
  refine k_iadd hC (pc := 497) dL_law_497 ?_
  refine k_sld hC hX hbl hbF hLn (by omega) (pc := 498) dL_law_498 ?_
  refine k_aload_n hC (pc := 499) dL_law_499 rfl rfl ?_
  refine l_callW hC hF hZ (pc := 500) hW1 (by decide) zcw_open rfl rfl (Nat.le_of_ble_eq_true rfl) ⟨hcn, hsn⟩ dL_law_500 (fun r A1 B1 hE => ?_)
  obtain ⟨rfl, ⟨f1, f2, cs1, cr1⟩, hb1⟩ := hE1 _ _ _ hE
  obtain ⟨E2, hM2, hE2⟩ := hM A1 B1 (z_box_mv f1 hbx) (zMR_mv f1 hmr)
  refine k_r1 hC ?_
  refine k_istore hC (L' := [(5, _), (4, _), (3, _), (2, _), (1, _), (0, _)]) (pc := 503) dL_law_503 (by decide) rfl ?_
  refine k_aload_n hC (pc := 505) dL_law_505 rfl rfl ?_
  refine k_aload_n hC (pc := 506) dL_law_506 rfl rfl ?_
  refine k_iload hC (pc := 507) dL_law_507 rfl ?_
  refine k_iconst hC (pc := 509) dL_law_509 zi_1 ?_
  refine k_iadd hC (pc := 510) dL_law_510 ?_
  refine k_sld hC hX hbl hbF hLn (by omega) (pc := 511) dL_law_511 ?_
  refine l_callV hC hF hZ (pc := 512) hM2 (by decide) zo_39 rfl zcm_open rfl rfl (Nat.le_of_ble_eq_true rfl) ⟨hcn, hsn⟩ dL_law_512 (fun r A2 B2 hE => ?_)
  obtain ⟨rfl, rfl, f3, ht2, bx2, mr2⟩ := hE2 _ _ _ hE
  refine k_r1 hC ?_
  refine k_istore hC (L' := [(6, _), (5, _), (4, _), (3, _), (2, _), (1, _), (0, _)]) (pc := 515) dL_law_515 (by decide) rfl ?_
  refine k_aload_n hC (pc := 517) dL_law_517 rfl rfl ?_
  refine l_callV hC hF hZ (pc := 518) m_thrown (by decide) zo_39 rfl zcm_thrown rfl rfl (Nat.le_of_ble_eq_true rfl) ⟨hcn, hsn⟩ dL_law_518 (fun r A9 B9 hE => ?_)
  obtain ⟨rfl, rfl, rfl⟩ := hE
  refine k_r1 hC (k_top hC (y := .int (nI k)) (by rw [ht2]) ?_)
  refine k_iload hC (pc := 521) dL_law_521 rfl ?_
  refine k_icmp_eq hC (pc := 523) (by omega) (by omega) (tgt := 528) dL_law_523 rfl (fun h => ?_) (fun h => absurd rfl h)
  refine k_iload hC (pc := 528) dL_law_528 rfl ?_
  refine k_if_ne hC (pc := 530) (by omega) (tgt := 545) dL_law_530 rfl (fun hk0 => ?_) (fun hk0 => ?_)
  · refine k_goto hC (pc := 545) (tgt := 617) dL_law_545 rfl ?_
    refine k_ls hC (L' := [(4, _), (3, _), (2, _), (1, _), (0, _)]) [2, 3, 4, 5, 6] rfl ?_
    exact kn _ _ ⟨n', R', m', X', zCS_mv (fun q hq => f3 q (Or.inl hq)) cs1, zCR_mv (fun q hq => f3 q (Or.inl hq)) cr1, bx2, mr2, hv'⟩
  · refine k_aload_n hC (pc := 533) dL_law_533 rfl rfl ?_
    refine k_iconst hC (pc := 534) dL_law_534 zi_0 ?_
    refine k_laload hC (k0 := 54) (by decide) rfl (by decide) (by decide) (pc := 535) dL_law_535 ?_
    refine k_iload hC (pc := 536) dL_law_536 rfl ?_
    refine k_i2l hC (pc := 538) dL_law_538 (by exact hb) ?_
    refine k_lcmp hC (pc := 539) dL_law_539 ?_
    refine k_top hC (y := .int (nI 0)) (by rw [hb1 b0 rfl (by omega), lg_cmp_self]) ?_
    refine k_if_eq hC (pc := 540) (by omega) (tgt := 545) dL_law_540 rfl (fun h => ?_) (fun h => absurd rfl h)
    refine k_goto hC (pc := 545) (tgt := 617) dL_law_545 rfl ?_
    refine k_ls hC (L' := [(4, _), (3, _), (2, _), (1, _), (0, _)]) [2, 3, 4, 5, 6] rfl ?_
    exact kn _ _ ⟨n', R', m', X', zCS_mv (fun q hq => f3 q (Or.inl hq)) cs1, zCR_mv (fun q hq => f3 q (Or.inl hq)) cr1, bx2, mr2, hv'⟩
theorem lb_at (hx0 : l_ctx p l s m args meth c F g b Ln xs) (hi : 5 * i + 5 ≤ Ln) (hI : l_I A B) (hcn : cn + 3 ≤ 601024) (hsn : sn + 18 ≤ 7293034) (kn : ∀ A' B', l_I A' B' → k_R p l e s m args below meth c F Q g mL_law room_1 (cn + 3) (sn + 18) 617 (l_L ad b i) [] (z_w g ad A' B')) : k_R p l e s m args below meth c F Q g mL_law room_1 cn sn 561 (l_L ad b i) [] (z_w g ad A B) := by
  obtain ⟨hC, hF, hZ, hA, hX, hbl, hbF, hLn, hst⟩ := hx0
  obtain ⟨n, R, m0, X, hcs, hcr, hbx, hmr, hv⟩ := hI
  obtain ⟨k, b0, n', R', m', X', hk, hb, hv', hW, hM⟩ := lo_at (l := l) (g := g) (ad := ad) hst hv (xs (5 * i + 1))
  obtain ⟨E1, hW1, hE1⟩ := hW A B hcs hcr
  unfold l_L at kn ⊢
  refine k_aload_n hC (pc := 561) dL_law_561 rfl rfl ?_
  refine k_aload_n hC (pc := 562) dL_law_562 rfl rfl ?_
  refine k_iload hC (pc := 563) dL_law_563 rfl ?_
  refine k_iconst hC (pc := 565) dL_law_565 zi_1 ?_
  refine k_iadd hC (pc := 566) dL_law_566 ?_
  refine k_sld hC hX hbl hbF hLn (by omega) (pc := 567) dL_law_567 ?_
  refine k_aload_n hC (pc := 568) dL_law_568 rfl rfl ?_
  refine l_callW hC hF hZ (pc := 569) hW1 (by decide) zcw_at rfl rfl (Nat.le_of_ble_eq_true rfl) ⟨hcn, hsn⟩ dL_law_569 (fun r A1 B1 hE => ?_)
  obtain ⟨rfl, ⟨f1, f2, cs1, cr1⟩, hb1⟩ := hE1 _ _ _ hE
  obtain ⟨E2, hM2, hE2⟩ := hM A1 B1 (z_box_mv f1 hbx) (zMR_mv f1 hmr)
  refine k_r1 hC ?_
  refine k_istore hC (L' := [(5, _), (4, _), (3, _), (2, _), (1, _), (0, _)]) (pc := 572) dL_law_572 (by decide) rfl ?_
  refine k_aload_n hC (pc := 574) dL_law_574 rfl rfl ?_
  refine k_aload_n hC (pc := 575) dL_law_575 rfl rfl ?_
  refine k_iload hC (pc := 576) dL_law_576 rfl ?_
  refine k_iconst hC (pc := 578) dL_law_578 zi_1 ?_
  refine k_iadd hC (pc := 579) dL_law_579 ?_
  refine k_sld hC hX hbl hbF hLn (by omega) (pc := 580) dL_law_580 ?_
  refine l_callV hC hF hZ (pc := 581) hM2 (by decide) zo_39 rfl zcm_at rfl rfl (Nat.le_of_ble_eq_true rfl) ⟨hcn, hsn⟩ dL_law_581 (fun r A2 B2 hE => ?_)
  obtain ⟨rfl, rfl, f3, ht2, bx2, mr2⟩ := hE2 _ _ _ hE
  refine k_r1 hC ?_
  refine k_istore hC (L' := [(6, _), (5, _), (4, _), (3, _), (2, _), (1, _), (0, _)]) (pc := 584) dL_law_584 (by decide) rfl ?_
  refine k_aload_n hC (pc := 586) dL_law_586 rfl rfl ?_
  refine l_callV hC hF hZ (pc := 587) m_thrown (by decide) zo_39 rfl zcm_thrown rfl rfl (Nat.le_of_ble_eq_true rfl) ⟨hcn, hsn⟩ dL_law_587 (fun r A9 B9 hE => ?_)
  obtain ⟨rfl, rfl, rfl⟩ := hE
  refine k_r1 hC (k_top hC (y := .int (nI k)) (by rw [ht2]) ?_)
  refine k_iload hC (pc := 590) dL_law_590 rfl ?_
  refine k_icmp_eq hC (pc := 592) (by omega) (by omega) (tgt := 597) dL_law_592 rfl (fun h => ?_) (fun h => absurd rfl h)
  refine k_iload hC (pc := 597) dL_law_597 rfl ?_
  refine k_if_ne hC (pc := 599) (by omega) (tgt := 614) dL_law_599 rfl (fun hk0 => ?_) (fun hk0 => ?_)
  · refine k_goto hC (pc := 614) (tgt := 617) dL_law_614 rfl ?_
    refine k_ls hC (L' := [(4, _), (3, _), (2, _), (1, _), (0, _)]) [2, 3, 4, 5, 6] rfl ?_
    exact kn _ _ ⟨n', R', m', X', zCS_mv (fun q hq => f3 q (Or.inl hq)) cs1, zCR_mv (fun q hq => f3 q (Or.inl hq)) cr1, bx2, mr2, hv'⟩
  · refine k_aload_n hC (pc := 602) dL_law_602 rfl rfl ?_
    refine k_iconst hC (pc := 603) dL_law_603 zi_0 ?_
    refine k_laload hC (k0 := 54) (by decide) rfl (by decide) (by decide) (pc := 604) dL_law_604 ?_
    refine k_iload hC (pc := 605) dL_law_605 rfl ?_
    refine k_i2l hC (pc := 607) dL_law_607 (by exact hb) ?_
    refine k_lcmp hC (pc := 608) dL_law_608 ?_
    refine k_top hC (y := .int (nI 0)) (by rw [hb1 b0 rfl (by omega), lg_cmp_self]) ?_
    refine k_if_eq hC (pc := 609) (by omega) (tgt := 614) dL_law_609 rfl (fun h => ?_) (fun h => absurd rfl h)
    refine k_goto hC (pc := 614) (tgt := 617) dL_law_614 rfl ?_
    refine k_ls hC (L' := [(4, _), (3, _), (2, _), (1, _), (0, _)]) [2, 3, 4, 5, 6] rfl ?_
    exact kn _ _ ⟨n', R', m', X', zCS_mv (fun q hq => f3 q (Or.inl hq)) cs1, zCR_mv (fun q hq => f3 q (Or.inl hq)) cr1, bx2, mr2, hv'⟩
theorem lb_size (hx0 : l_ctx p l s m args meth c F g b Ln xs) (hi : 5 * i + 5 ≤ Ln) (hI : l_I A B) (hcn : cn + 3 ≤ 601024) (hsn : sn + 18 ≤ 7293034) (kn : ∀ A' B', l_I A' B' → k_R p l e s m args below meth c F Q g mL_law room_1 (cn + 3) (sn + 18) 617 (l_L ad b i) [] (z_w g ad A' B')) : k_R p l e s m args below meth c F Q g mL_law room_1 cn sn 548 (l_L ad b i) [] (z_w g ad A B) := by
  obtain ⟨hC, hF, hZ, hA, hX, hbl, hbF, hLn, hst⟩ := hx0
  obtain ⟨n, R, m0, X, hcs, hcr, hbx, hmr, hv⟩ := hI
  have hm64 := hv.2.1
  unfold l_L at kn ⊢
  refine k_aload_n hC (pc := 548) dL_law_548 rfl rfl ?_
  refine l_callV hC hF hZ (pc := 549) (c_size hcs hcr hv) (by decide) zo_0 rfl zcs_size rfl rfl (Nat.le_of_ble_eq_true rfl) ⟨by show cn + 0 ≤ 601024; omega, by show sn + 0 ≤ 7293034; omega⟩ dL_law_549 (fun r A1 B1 hE => ?_)
  obtain ⟨rfl, f1, f2, cs1, cr1⟩ := hE
  refine k_r1 hC ?_
  refine k_aload_n hC (pc := 552) dL_law_552 rfl rfl ?_
  refine l_callV hC hF hZ (pc := 553) (m_size (z_box_mv f1 hbx) (zMR_mv f1 hmr) hv) (by decide) zo_39 rfl zcm_size rfl rfl (Nat.le_of_ble_eq_true rfl) ⟨by show cn + 0 ≤ 601024; omega, by show sn + 0 ≤ 7293034; omega⟩ dL_law_553 (fun r A2 B2 hE => ?_)
  obtain ⟨rfl, rfl, f3, ht2, bx2, mr2⟩ := hE
  refine k_r1 hC ?_
  refine k_icmp_eq hC (pc := 556) (by omega) (by omega) (tgt := 617) dL_law_556 rfl (fun h => ?_) (fun h => absurd rfl h)
  refine k_cn hC (by omega) (by omega) (kn _ _ ⟨n, R, m0, X, zCS_mv (fun q hq => f3 q (Or.inl hq)) cs1, zCR_mv (fun q hq => f3 q (Or.inl hq)) cr1, bx2, mr2, hv⟩)
end LT
