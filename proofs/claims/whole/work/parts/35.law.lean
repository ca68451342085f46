/-! ===== the law's cases ===== -/
theorem inv_len {th : Int32} {o : Nat → Int64} {w : tk_W} (h : INV th o w) : w.length = 46 := by
  obtain ⟨D, pcc, bd, S1, ch, be, bc, al, st, sp, dn, S2, s, ah, pcm, pl, nw, br, rfl, -⟩ := h
  rfl
theorem inv_29 {th : Int32} {o : Nat → Int64} {w : tk_W} (h : INV th o w) : ∃ F, w[29]? = some (.inr (6, F)) := by
  obtain ⟨D, pcc, bd, S1, ch, be, bc, al, st, sp, dn, S2, s, ah, pcm, pl, nw, br, rfl, -⟩ := h
  exact ⟨_, rfl⟩
theorem inv_45 {th : Int32} {o : Nat → Int64} {w : tk_W} (h : INV th o w) : w[45]? = some (.inl (1, 1, .inr (.inl o))) := by
  obtain ⟨D, pcc, bd, S1, ch, be, bc, al, st, sp, dn, S2, s, ah, pcm, pl, nw, br, rfl, -⟩ := h
  rfl
theorem inv_th {th : Int32} {o : Nat → Int64} {w : tk_W} (h : INV th o w) : tk_M y_M_thrown w_M_thrown 0 0 0 [.ref 29] w (tk_det (.inl (some (.int th))) w) := by
  obtain ⟨D, pcc, bd, S1, ch, be, bc, al, st, sp, dn, S2, s, ah, pcm, pl, nw, br, rfl, -⟩ := h
  exact m_thrown
abbrev yLw (nm : String) : MethodName := ⟨"ChargePlansLaw", nm, ""⟩
abbrev LwT (nm : String) (hh : List (Nat × Nat × Nat × Nat)) (ro : Nat → Option (Nat × (Nat → Int32))) (Q : tk_R → tk_W → Prop) (cells slots pc : Nat) (i : Nat) (o5 o6 : Option Value) (w : tk_W) : Prop :=
  tk_T (yLw nm) code 8 (some .boolean) hh 12 1000 10000 ro cells slots Q pc [some (.ref 1000000), some (.ref 0), some (.ref 29), some (.ref 45), some (.int (nI i)), o5, o6, none] [] w
section LAWC
variable {nm : String} {hh : List (Nat × Nat × Nat × Nat)} {ro : Nat → Option (Nat × (Nat → Int32))} {Q : tk_R → tk_W → Prop} {cells slots i L : Nat} {xs : Nat → Int32} {o5 o6 : Option Value} {th : Int32} {o : Nat → Int64} {w : tk_W}
set_option maxHeartbeats 1000000 in
theorem lc_good (hro : ro 1000000 = some (L, xs)) (hL : L ≤ 2560) (hi : i + 5 ≤ L) (hI : INV th o w) (hkc : cells + 1 ≤ 1000) (hks : slots + 6 ≤ 10000)
    (K : ∀ (w' : tk_W) (th' : Int32) (o' : Nat → Int64) (p5 p6 : Option Value), INV th' o' w' → LwT nm hh ro Q (cells + 1) (slots + 6) 1074 i p5 p6 w') : LwT nm hh ro Q cells slots 112 i o5 o6 w := by
  obtain ⟨k, w1, hM1, hl1, ⟨F1, h29⟩, Q2, hM2, hq⟩ := op_good hI (xs (i + 1)) (xs (i + 2)) (xs (i + 3))
  have hl := inv_len hI
  refine tk_aload_n (pc := 112) d_L_law_112 rfl ?_
  refine tk_aload_n (pc := 113) d_L_law_113 rfl ?_
  refine tk_iload (pc := 114) d_L_law_114 rfl ?_
  refine tk_iconst (pc := 116) (v := 1) d_L_law_116 (by decide) ?_
  refine tk_iadd (pc := 117) d_L_law_117 ?_
  refine tk_sld (pc := 118) (i + 1) d_L_law_118 hro (by rw [hl]; decide) (ix2 i 1) (by omega) (by omega) ?_
  refine tk_aload_n (pc := 119) d_L_law_119 rfl ?_
  refine tk_iload (pc := 120) d_L_law_120 rfl ?_
  refine tk_iconst (pc := 122) (v := 2) d_L_law_122 (by decide) ?_
  refine tk_iadd (pc := 123) d_L_law_123 ?_
  refine tk_sld (pc := 124) (i + 2) d_L_law_124 hro (by rw [hl]; decide) (ix2 i 2) (by omega) (by omega) ?_
  refine tk_aload_n (pc := 125) d_L_law_125 rfl ?_
  refine tk_iload (pc := 126) d_L_law_126 rfl ?_
  refine tk_iconst (pc := 128) (v := 3) d_L_law_128 (by decide) ?_
  refine tk_iadd (pc := 129) d_L_law_129 ?_
  refine tk_sld (pc := 130) (i + 3) d_L_law_130 hro (by rw [hl]; decide) (ix2 i 3) (by omega) (by omega) ?_
  refine tk_aload_n (pc := 131) d_L_law_131 rfl ?_
  refine tk_callSr (pc := 132) d_L_law_132 l_L_73 k_L_good hM1 (by rw [hl1, hl]) (by decide) hkc hks (Nat.le_of_ble_eq_true rfl) rfl rfl ?_
  refine tk_istore5 (pc := 135) d_L_law_135 rfl (by decide) ?_
  refine tk_aload_n (pc := 137) d_L_law_137 rfl ?_
  refine tk_aload_n (pc := 138) d_L_law_138 rfl ?_
  refine tk_iload (pc := 139) d_L_law_139 rfl ?_
  refine tk_iconst (pc := 141) (v := 1) d_L_law_141 (by decide) ?_
  refine tk_iadd (pc := 142) d_L_law_142 ?_
  refine tk_sld (pc := 143) (i + 1) d_L_law_143 hro (by rw [hl1]; decide) (ix2 i 1) (by omega) (by omega) ?_
  refine tk_aload_n (pc := 144) d_L_law_144 rfl ?_
  refine tk_iload (pc := 145) d_L_law_145 rfl ?_
  refine tk_iconst (pc := 147) (v := 2) d_L_law_147 (by decide) ?_
  refine tk_iadd (pc := 148) d_L_law_148 ?_
  refine tk_sld (pc := 149) (i + 2) d_L_law_149 hro (by rw [hl1]; decide) (ix2 i 2) (by omega) (by omega) ?_
  refine tk_aload_n (pc := 150) d_L_law_150 rfl ?_
  refine tk_iload (pc := 151) d_L_law_151 rfl ?_
  refine tk_iconst (pc := 153) (v := 3) d_L_law_153 (by decide) ?_
  refine tk_iadd (pc := 154) d_L_law_154 ?_
  refine tk_sld (pc := 155) (i + 3) d_L_law_155 hro (by rw [hl1]; decide) (ix2 i 3) (by omega) (by omega) ?_
  refine tk_callV (pc := 156) d_L_law_156 l_L_78 k_M_good h29 rfl rfl hM2 (by decide) (by omega) (by omega) (Nat.le_of_ble_eq_true rfl) rfl rfl ?_ ?_ ?_
  · intro r x hx
    obtain ⟨v, -, o', hI', -⟩ := hq r x hx
    exact tk_kps_same (by rw [inv_len hI', hl1])
  · intro r x hx
    obtain ⟨v, hv, o', hI', hk0⟩ := hq _ x hx
    cases hv
    obtain ⟨F2, h292⟩ := inv_29 hI'
    refine tk_istore6 (pc := 159) d_L_law_159 rfl (by decide) ?_
    refine tk_aload_n (pc := 161) d_L_law_161 rfl ?_
    refine tk_callVr (pc := 162) d_L_law_162 l_L_79 k_M_thrown h292 rfl rfl (inv_th hI') rfl (by decide) (by omega) (by omega) (Nat.le_of_ble_eq_true rfl) rfl rfl ?_
    refine tk_iload (pc := 165) d_L_law_165 rfl ?_
    refine tk_icmp_eq (pc := 167) (tgt := 172) d_L_law_167 (by decide) (fun hb => ?_) (fun hb => ?_)
    · refine tk_iload (pc := 172) d_L_law_172 rfl ?_
      refine tk_if_ne (pc := 174) (tgt := 189) d_L_law_174 (by decide) (fun hc => ?_) (fun hc => ?_)
      · refine tk_goto (pc := 189) (tgt := 1074) d_L_law_189 (by decide) ?_
        exact K x k o' _ _ hI'
      · refine tk_aload_n (pc := 177) d_L_law_177 rfl ?_
        refine tk_iconst (pc := 178) (v := 0) d_L_law_178 (by decide) ?_
        refine tk_lald (pc := 179) 0 d_L_law_179 (inv_45 hI') rfl (by decide) (by decide) ?_
        refine tk_iload (pc := 180) d_L_law_180 rfl ?_
        refine tk_i2l (pc := 182) d_L_law_182 ?_
        refine tk_lcmp (pc := 183) d_L_law_183 ?_
        refine tk_if_eq (pc := 184) (tgt := 189) d_L_law_184 (by decide) (fun hd => ?_) (fun hd => ?_)
        · refine tk_goto (pc := 189) (tgt := 1074) d_L_law_189 (by decide) ?_
          exact K x k o' _ _ hI'
        · exact absurd ((lg_cmp_eq _ _).mpr (hk0 hc)) hd
    · exact absurd rfl hb
  · intro C x hx
    obtain ⟨v, hv, -⟩ := hq _ x hx
    cases hv
set_option maxHeartbeats 1000000 in
theorem lc_element (hro : ro 1000000 = some (L, xs)) (hL : L ≤ 2560) (hi : i + 5 ≤ L) (hI : INV th o w) (hkc : cells + 1 ≤ 1000) (hks : slots + 6 ≤ 10000)
    (K : ∀ (w' : tk_W) (th' : Int32) (o' : Nat → Int64) (p5 p6 : Option Value), INV th' o' w' → LwT nm hh ro Q (cells + 1) (slots + 6) 1074 i p5 p6 w') : LwT nm hh ro Q cells slots 192 i o5 o6 w := by
  obtain ⟨k, w1, hM1, hl1, ⟨F1, h29⟩, Q2, hM2, hq⟩ := op_element hI (xs (i + 1)) (xs (i + 2)) (xs (i + 3)) (xs (i + 4))
  have hl := inv_len hI
  refine tk_aload_n (pc := 192) d_L_law_192 rfl ?_
  refine tk_aload_n (pc := 193) d_L_law_193 rfl ?_
  refine tk_iload (pc := 194) d_L_law_194 rfl ?_
  refine tk_iconst (pc := 196) (v := 1) d_L_law_196 (by decide) ?_
  refine tk_iadd (pc := 197) d_L_law_197 ?_
  refine tk_sld (pc := 198) (i + 1) d_L_law_198 hro (by rw [hl]; decide) (ix2 i 1) (by omega) (by omega) ?_
  refine tk_aload_n (pc := 199) d_L_law_199 rfl ?_
  refine tk_iload (pc := 200) d_L_law_200 rfl ?_
  refine tk_iconst (pc := 202) (v := 2) d_L_law_202 (by decide) ?_
  refine tk_iadd (pc := 203) d_L_law_203 ?_
  refine tk_sld (pc := 204) (i + 2) d_L_law_204 hro (by rw [hl]; decide) (ix2 i 2) (by omega) (by omega) ?_
  refine tk_aload_n (pc := 205) d_L_law_205 rfl ?_
  refine tk_iload (pc := 206) d_L_law_206 rfl ?_
  refine tk_iconst (pc := 208) (v := 3) d_L_law_208 (by decide) ?_
  refine tk_iadd (pc := 209) d_L_law_209 ?_
  refine tk_sld (pc := 210) (i + 3) d_L_law_210 hro (by rw [hl]; decide) (ix2 i 3) (by omega) (by omega) ?_
  refine tk_aload_n (pc := 211) d_L_law_211 rfl ?_
  refine tk_iload (pc := 212) d_L_law_212 rfl ?_
  refine tk_iconst (pc := 214) (v := 4) d_L_law_214 (by decide) ?_
  refine tk_iadd (pc := 215) d_L_law_215 ?_
  refine tk_sld (pc := 216) (i + 4) d_L_law_216 hro (by rw [hl]; decide) (ix2 i 4) (by omega) (by omega) ?_
  refine tk_callSr (pc := 217) d_L_law_217 l_L_83 k_L_element hM1 (by rw [hl1, hl]) (by decide) hkc hks (Nat.le_of_ble_eq_true rfl) rfl rfl ?_
  refine tk_istore5 (pc := 220) d_L_law_220 rfl (by decide) ?_
  refine tk_aload_n (pc := 222) d_L_law_222 rfl ?_
  refine tk_aload_n (pc := 223) d_L_law_223 rfl ?_
  refine tk_iload (pc := 224) d_L_law_224 rfl ?_
  refine tk_iconst (pc := 226) (v := 1) d_L_law_226 (by decide) ?_
  refine tk_iadd (pc := 227) d_L_law_227 ?_
  refine tk_sld (pc := 228) (i + 1) d_L_law_228 hro (by rw [hl1]; decide) (ix2 i 1) (by omega) (by omega) ?_
  refine tk_aload_n (pc := 229) d_L_law_229 rfl ?_
  refine tk_iload (pc := 230) d_L_law_230 rfl ?_
  refine tk_iconst (pc := 232) (v := 2) d_L_law_232 (by decide) ?_
  refine tk_iadd (pc := 233) d_L_law_233 ?_
  refine tk_sld (pc := 234) (i + 2) d_L_law_234 hro (by rw [hl1]; decide) (ix2 i 2) (by omega) (by omega) ?_
  refine tk_aload_n (pc := 235) d_L_law_235 rfl ?_
  refine tk_iload (pc := 236) d_L_law_236 rfl ?_
  refine tk_iconst (pc := 238) (v := 3) d_L_law_238 (by decide) ?_
  refine tk_iadd (pc := 239) d_L_law_239 ?_
  refine tk_sld (pc := 240) (i + 3) d_L_law_240 hro (by rw [hl1]; decide) (ix2 i 3) (by omega) (by omega) ?_
  refine tk_aload_n (pc := 241) d_L_law_241 rfl ?_
  refine tk_iload (pc := 242) d_L_law_242 rfl ?_
  refine tk_iconst (pc := 244) (v := 4) d_L_law_244 (by decide) ?_
  refine tk_iadd (pc := 245) d_L_law_245 ?_
  refine tk_sld (pc := 246) (i + 4) d_L_law_246 hro (by rw [hl1]; decide) (ix2 i 4) (by omega) (by omega) ?_
  refine tk_callV (pc := 247) d_L_law_247 l_L_86 k_M_element h29 rfl rfl hM2 (by decide) (by omega) (by omega) (Nat.le_of_ble_eq_true rfl) rfl rfl ?_ ?_ ?_
  · intro r x hx
    obtain ⟨-, o', hI'⟩ := hq r x hx
    exact tk_kps_same (by rw [inv_len hI', hl1])
  · intro r x hx
    obtain ⟨hv, o', hI'⟩ := hq _ x hx
    cases hv
    obtain ⟨F2, h292⟩ := inv_29 hI'
    refine tk_aload_n (pc := 250) d_L_law_250 rfl ?_
    refine tk_callVr (pc := 251) d_L_law_251 l_L_79 k_M_thrown h292 rfl rfl (inv_th hI') rfl (by decide) (by omega) (by omega) (Nat.le_of_ble_eq_true rfl) rfl rfl ?_
    refine tk_iload (pc := 254) d_L_law_254 rfl ?_
    refine tk_icmp_eq (pc := 256) (tgt := 261) d_L_law_256 (by decide) (fun hb => ?_) (fun hb => ?_)
    · refine tk_goto (pc := 261) (tgt := 1074) d_L_law_261 (by decide) ?_
      exact K x k o' _ _ hI'
    · exact absurd rfl hb
  · intro C x hx
    obtain ⟨hv, -⟩ := hq _ x hx
    cases hv
set_option maxHeartbeats 1000000 in
theorem lc_limit (hro : ro 1000000 = some (L, xs)) (hL : L ≤ 2560) (hi : i + 5 ≤ L) (hI : INV th o w) (hkc : cells + 1 ≤ 1000) (hks : slots + 6 ≤ 10000)
    (K : ∀ (w' : tk_W) (th' : Int32) (o' : Nat → Int64) (p5 p6 : Option Value), INV th' o' w' → LwT nm hh ro Q (cells + 1) (slots + 6) 1074 i p5 p6 w') : LwT nm hh ro Q cells slots 264 i o5 o6 w := by
  obtain ⟨k, w1, hM1, hl1, ⟨F1, h29⟩, Q2, hM2, hq⟩ := op_limit hI (xs (i + 1)) (xs (i + 2))
  have hl := inv_len hI
  refine tk_aload_n (pc := 264) d_L_law_264 rfl ?_
  refine tk_aload_n (pc := 265) d_L_law_265 rfl ?_
  refine tk_iload (pc := 266) d_L_law_266 rfl ?_
  refine tk_iconst (pc := 268) (v := 1) d_L_law_268 (by decide) ?_
  refine tk_iadd (pc := 269) d_L_law_269 ?_
  refine tk_sld (pc := 270) (i + 1) d_L_law_270 hro (by rw [hl]; decide) (ix2 i 1) (by omega) (by omega) ?_
  refine tk_aload_n (pc := 271) d_L_law_271 rfl ?_
  refine tk_iload (pc := 272) d_L_law_272 rfl ?_
  refine tk_iconst (pc := 274) (v := 2) d_L_law_274 (by decide) ?_
  refine tk_iadd (pc := 275) d_L_law_275 ?_
  refine tk_sld (pc := 276) (i + 2) d_L_law_276 hro (by rw [hl]; decide) (ix2 i 2) (by omega) (by omega) ?_
  refine tk_callSr (pc := 277) d_L_law_277 l_L_87 k_L_limit hM1 (by rw [hl1, hl]) (by decide) hkc hks (Nat.le_of_ble_eq_true rfl) rfl rfl ?_
  refine tk_istore5 (pc := 280) d_L_law_280 rfl (by decide) ?_
  refine tk_aload_n (pc := 282) d_L_law_282 rfl ?_
  refine tk_aload_n (pc := 283) d_L_law_283 rfl ?_
  refine tk_iload (pc := 284) d_L_law_284 rfl ?_
  refine tk_iconst (pc := 286) (v := 1) d_L_law_286 (by decide) ?_
  refine tk_iadd (pc := 287) d_L_law_287 ?_
  refine tk_sld (pc := 288) (i + 1) d_L_law_288 hro (by rw [hl1]; decide) (ix2 i 1) (by omega) (by omega) ?_
  refine tk_aload_n (pc := 289) d_L_law_289 rfl ?_
  refine tk_iload (pc := 290) d_L_law_290 rfl ?_
  refine tk_iconst (pc := 292) (v := 2) d_L_law_292 (by decide) ?_
  refine tk_iadd (pc := 293) d_L_law_293 ?_
  refine tk_sld (pc := 294) (i + 2) d_L_law_294 hro (by rw [hl1]; decide) (ix2 i 2) (by omega) (by omega) ?_
  refine tk_callV (pc := 295) d_L_law_295 l_L_90 k_M_limit h29 rfl rfl hM2 (by decide) (by omega) (by omega) (Nat.le_of_ble_eq_true rfl) rfl rfl ?_ ?_ ?_
  · intro r x hx
    obtain ⟨-, o', hI'⟩ := hq r x hx
    exact tk_kps_same (by rw [inv_len hI', hl1])
  · intro r x hx
    obtain ⟨hv, o', hI'⟩ := hq _ x hx
    cases hv
    obtain ⟨F2, h292⟩ := inv_29 hI'
    refine tk_aload_n (pc := 298) d_L_law_298 rfl ?_
    refine tk_callVr (pc := 299) d_L_law_299 l_L_79 k_M_thrown h292 rfl rfl (inv_th hI') rfl (by decide) (by omega) (by omega) (Nat.le_of_ble_eq_true rfl) rfl rfl ?_
    refine tk_iload (pc := 302) d_L_law_302 rfl ?_
    refine tk_icmp_eq (pc := 304) (tgt := 309) d_L_law_304 (by decide) (fun hb => ?_) (fun hb => ?_)
    · refine tk_goto (pc := 309) (tgt := 1074) d_L_law_309 (by decide) ?_
      exact K x k o' _ _ hI'
    · exact absurd rfl hb
  · intro C x hx
    obtain ⟨hv, -⟩ := hq _ x hx
    cases hv
set_option maxHeartbeats 1000000 in
theorem lc_arrive (hro : ro 1000000 = some (L, xs)) (hL : L ≤ 2560) (hi : i + 5 ≤ L) (hI : INV th o w) (hkc : cells + 1 ≤ 1000) (hks : slots + 6 ≤ 10000)
    (K : ∀ (w' : tk_W) (th' : Int32) (o' : Nat → Int64) (p5 p6 : Option Value), INV th' o' w' → LwT nm hh ro Q (cells + 1) (slots + 6) 1074 i p5 p6 w') : LwT nm hh ro Q cells slots 312 i o5 o6 w := by
  obtain ⟨k, w1, hM1, hl1, ⟨F1, h29⟩, Q2, hM2, hq⟩ := op_arrive hI (xs (i + 1)) (xs (i + 2))
  have hl := inv_len hI
  refine tk_aload_n (pc := 312) d_L_law_312 rfl ?_
  refine tk_aload_n (pc := 313) d_L_law_313 rfl ?_
  refine tk_iload (pc := 314) d_L_law_314 rfl ?_
  refine tk_iconst (pc := 316) (v := 1) d_L_law_316 (by decide) ?_
  refine tk_iadd (pc := 317) d_L_law_317 ?_
  refine tk_sld (pc := 318) (i + 1) d_L_law_318 hro (by rw [hl]; decide) (ix2 i 1) (by omega) (by omega) ?_
  refine tk_aload_n (pc := 319) d_L_law_319 rfl ?_
  refine tk_iload (pc := 320) d_L_law_320 rfl ?_
  refine tk_iconst (pc := 322) (v := 2) d_L_law_322 (by decide) ?_
  refine tk_iadd (pc := 323) d_L_law_323 ?_
  refine tk_sld (pc := 324) (i + 2) d_L_law_324 hro (by rw [hl]; decide) (ix2 i 2) (by omega) (by omega) ?_
  refine tk_aload_n (pc := 325) d_L_law_325 rfl ?_
  refine tk_callSr (pc := 326) d_L_law_326 l_L_91 k_L_arrive hM1 (by rw [hl1, hl]) (by decide) hkc hks (Nat.le_of_ble_eq_true rfl) rfl rfl ?_
  refine tk_istore5 (pc := 329) d_L_law_329 rfl (by decide) ?_
  refine tk_aload_n (pc := 331) d_L_law_331 rfl ?_
  refine tk_aload_n (pc := 332) d_L_law_332 rfl ?_
  refine tk_iload (pc := 333) d_L_law_333 rfl ?_
  refine tk_iconst (pc := 335) (v := 1) d_L_law_335 (by decide) ?_
  refine tk_iadd (pc := 336) d_L_law_336 ?_
  refine tk_sld (pc := 337) (i + 1) d_L_law_337 hro (by rw [hl1]; decide) (ix2 i 1) (by omega) (by omega) ?_
  refine tk_aload_n (pc := 338) d_L_law_338 rfl ?_
  refine tk_iload (pc := 339) d_L_law_339 rfl ?_
  refine tk_iconst (pc := 341) (v := 2) d_L_law_341 (by decide) ?_
  refine tk_iadd (pc := 342) d_L_law_342 ?_
  refine tk_sld (pc := 343) (i + 2) d_L_law_343 hro (by rw [hl1]; decide) (ix2 i 2) (by omega) (by omega) ?_
  refine tk_callV (pc := 344) d_L_law_344 l_L_94 k_M_arrive h29 rfl rfl hM2 (by decide) (by omega) (by omega) (Nat.le_of_ble_eq_true rfl) rfl rfl ?_ ?_ ?_
  · intro r x hx
    obtain ⟨v, -, o', hI', -⟩ := hq r x hx
    exact tk_kps_same (by rw [inv_len hI', hl1])
  · intro r x hx
    obtain ⟨v, hv, o', hI', hk0⟩ := hq _ x hx
    cases hv
    obtain ⟨F2, h292⟩ := inv_29 hI'
    refine tk_istore6 (pc := 347) d_L_law_347 rfl (by decide) ?_
    refine tk_aload_n (pc := 349) d_L_law_349 rfl ?_
    refine tk_callVr (pc := 350) d_L_law_350 l_L_79 k_M_thrown h292 rfl rfl (inv_th hI') rfl (by decide) (by omega) (by omega) (Nat.le_of_ble_eq_true rfl) rfl rfl ?_
    refine tk_iload (pc := 353) d_L_law_353 rfl ?_
    refine tk_icmp_eq (pc := 355) (tgt := 360) d_L_law_355 (by decide) (fun hb => ?_) (fun hb => ?_)
    · refine tk_iload (pc := 360) d_L_law_360 rfl ?_
      refine tk_if_ne (pc := 362) (tgt := 377) d_L_law_362 (by decide) (fun hc => ?_) (fun hc => ?_)
      · refine tk_goto (pc := 377) (tgt := 1074) d_L_law_377 (by decide) ?_
        exact K x k o' _ _ hI'
      · refine tk_aload_n (pc := 365) d_L_law_365 rfl ?_
        refine tk_iconst (pc := 366) (v := 0) d_L_law_366 (by decide) ?_
        refine tk_lald (pc := 367) 0 d_L_law_367 (inv_45 hI') rfl (by decide) (by decide) ?_
        refine tk_iload (pc := 368) d_L_law_368 rfl ?_
        refine tk_i2l (pc := 370) d_L_law_370 ?_
        refine tk_lcmp (pc := 371) d_L_law_371 ?_
        refine tk_if_eq (pc := 372) (tgt := 377) d_L_law_372 (by decide) (fun hd => ?_) (fun hd => ?_)
        · refine tk_goto (pc := 377) (tgt := 1074) d_L_law_377 (by decide) ?_
          exact K x k o' _ _ hI'
        · exact absurd ((lg_cmp_eq _ _).mpr (hk0 hc)) hd
    · exact absurd rfl hb
  · intro C x hx
    obtain ⟨v, hv, -⟩ := hq _ x hx
    cases hv
set_option maxHeartbeats 1000000 in
theorem lc_heat (hro : ro 1000000 = some (L, xs)) (hL : L ≤ 2560) (hi : i + 5 ≤ L) (hI : INV th o w) (hkc : cells + 1 ≤ 1000) (hks : slots + 6 ≤ 10000)
    (K : ∀ (w' : tk_W) (th' : Int32) (o' : Nat → Int64) (p5 p6 : Option Value), INV th' o' w' → LwT nm hh ro Q (cells + 1) (slots + 6) 1074 i p5 p6 w') : LwT nm hh ro Q cells slots 380 i o5 o6 w := by
  obtain ⟨k, w1, hM1, hl1, ⟨F1, h29⟩, Q2, hM2, hq⟩ := op_heat hI (xs (i + 1)) (xs (i + 2))
  have hl := inv_len hI
  refine tk_aload_n (pc := 380) d_L_law_380 rfl ?_
  refine tk_aload_n (pc := 381) d_L_law_381 rfl ?_
  refine tk_iload (pc := 382) d_L_law_382 rfl ?_
  refine tk_iconst (pc := 384) (v := 1) d_L_law_384 (by decide) ?_
  refine tk_iadd (pc := 385) d_L_law_385 ?_
  refine tk_sld (pc := 386) (i + 1) d_L_law_386 hro (by rw [hl]; decide) (ix2 i 1) (by omega) (by omega) ?_
  refine tk_aload_n (pc := 387) d_L_law_387 rfl ?_
  refine tk_iload (pc := 388) d_L_law_388 rfl ?_
  refine tk_iconst (pc := 390) (v := 2) d_L_law_390 (by decide) ?_
  refine tk_iadd (pc := 391) d_L_law_391 ?_
  refine tk_sld (pc := 392) (i + 2) d_L_law_392 hro (by rw [hl]; decide) (ix2 i 2) (by omega) (by omega) ?_
  refine tk_aload_n (pc := 393) d_L_law_393 rfl ?_
  refine tk_callSr (pc := 394) d_L_law_394 l_L_95 k_L_heat hM1 (by rw [hl1, hl]) (by decide) hkc hks (Nat.le_of_ble_eq_true rfl) rfl rfl ?_
  refine tk_istore5 (pc := 397) d_L_law_397 rfl (by decide) ?_
  refine tk_aload_n (pc := 399) d_L_law_399 rfl ?_
  refine tk_aload_n (pc := 400) d_L_law_400 rfl ?_
  refine tk_iload (pc := 401) d_L_law_401 rfl ?_
  refine tk_iconst (pc := 403) (v := 1) d_L_law_403 (by decide) ?_
  refine tk_iadd (pc := 404) d_L_law_404 ?_
  refine tk_sld (pc := 405) (i + 1) d_L_law_405 hro (by rw [hl1]; decide) (ix2 i 1) (by omega) (by omega) ?_
  refine tk_aload_n (pc := 406) d_L_law_406 rfl ?_
  refine tk_iload (pc := 407) d_L_law_407 rfl ?_
  refine tk_iconst (pc := 409) (v := 2) d_L_law_409 (by decide) ?_
  refine tk_iadd (pc := 410) d_L_law_410 ?_
  refine tk_sld (pc := 411) (i + 2) d_L_law_411 hro (by rw [hl1]; decide) (ix2 i 2) (by omega) (by omega) ?_
  refine tk_callV (pc := 412) d_L_law_412 l_L_97 k_M_heat h29 rfl rfl hM2 (by decide) (by omega) (by omega) (Nat.le_of_ble_eq_true rfl) rfl rfl ?_ ?_ ?_
  · intro r x hx
    obtain ⟨v, -, o', hI', -⟩ := hq r x hx
    exact tk_kps_same (by rw [inv_len hI', hl1])
  · intro r x hx
    obtain ⟨v, hv, o', hI', hk0⟩ := hq _ x hx
    cases hv
    obtain ⟨F2, h292⟩ := inv_29 hI'
    refine tk_istore6 (pc := 415) d_L_law_415 rfl (by decide) ?_
    refine tk_aload_n (pc := 417) d_L_law_417 rfl ?_
    refine tk_callVr (pc := 418) d_L_law_418 l_L_79 k_M_thrown h292 rfl rfl (inv_th hI') rfl (by decide) (by omega) (by omega) (Nat.le_of_ble_eq_true rfl) rfl rfl ?_
    refine tk_iload (pc := 421) d_L_law_421 rfl ?_
    refine tk_icmp_eq (pc := 423) (tgt := 428) d_L_law_423 (by decide) (fun hb => ?_) (fun hb => ?_)
    · refine tk_iload (pc := 428) d_L_law_428 rfl ?_
      refine tk_if_ne (pc := 430) (tgt := 445) d_L_law_430 (by decide) (fun hc => ?_) (fun hc => ?_)
      · refine tk_goto (pc := 445) (tgt := 1074) d_L_law_445 (by decide) ?_
        exact K x k o' _ _ hI'
      · refine tk_aload_n (pc := 433) d_L_law_433 rfl ?_
        refine tk_iconst (pc := 434) (v := 0) d_L_law_434 (by decide) ?_
        refine tk_lald (pc := 435) 0 d_L_law_435 (inv_45 hI') rfl (by decide) (by decide) ?_
        refine tk_iload (pc := 436) d_L_law_436 rfl ?_
        refine tk_i2l (pc := 438) d_L_law_438 ?_
        refine tk_lcmp (pc := 439) d_L_law_439 ?_
        refine tk_if_eq (pc := 440) (tgt := 445) d_L_law_440 (by decide) (fun hd => ?_) (fun hd => ?_)
        · refine tk_goto (pc := 445) (tgt := 1074) d_L_law_445 (by decide) ?_
          exact K x k o' _ _ hI'
        · exact absurd ((lg_cmp_eq _ _).mpr (hk0 hc)) hd
    · exact absurd rfl hb
  · intro C x hx
    obtain ⟨v, hv, -⟩ := hq _ x hx
    cases hv
set_option maxHeartbeats 1000000 in
theorem lc_span (hro : ro 1000000 = some (L, xs)) (hL : L ≤ 2560) (hi : i + 5 ≤ L) (hI : INV th o w) (hkc : cells + 1 ≤ 1000) (hks : slots + 6 ≤ 10000)
    (K : ∀ (w' : tk_W) (th' : Int32) (o' : Nat → Int64) (p5 p6 : Option Value), INV th' o' w' → LwT nm hh ro Q (cells + 1) (slots + 6) 1074 i p5 p6 w') : LwT nm hh ro Q cells slots 448 i o5 o6 w := by
  obtain ⟨k, w1, hM1, hl1, ⟨F1, h29⟩, Q2, hM2, hq⟩ := op_span hI (xs (i + 1)) (xs (i + 2)) (xs (i + 3)) (xs (i + 4))
  have hl := inv_len hI
  refine tk_aload_n (pc := 448) d_L_law_448 rfl ?_
  refine tk_aload_n (pc := 449) d_L_law_449 rfl ?_
  refine tk_iload (pc := 450) d_L_law_450 rfl ?_
  refine tk_iconst (pc := 452) (v := 1) d_L_law_452 (by decide) ?_
  refine tk_iadd (pc := 453) d_L_law_453 ?_
  refine tk_sld (pc := 454) (i + 1) d_L_law_454 hro (by rw [hl]; decide) (ix2 i 1) (by omega) (by omega) ?_
  refine tk_aload_n (pc := 455) d_L_law_455 rfl ?_
  refine tk_iload (pc := 456) d_L_law_456 rfl ?_
  refine tk_iconst (pc := 458) (v := 2) d_L_law_458 (by decide) ?_
  refine tk_iadd (pc := 459) d_L_law_459 ?_
  refine tk_sld (pc := 460) (i + 2) d_L_law_460 hro (by rw [hl]; decide) (ix2 i 2) (by omega) (by omega) ?_
  refine tk_aload_n (pc := 461) d_L_law_461 rfl ?_
  refine tk_iload (pc := 462) d_L_law_462 rfl ?_
  refine tk_iconst (pc := 464) (v := 3) d_L_law_464 (by decide) ?_
  refine tk_iadd (pc := 465) d_L_law_465 ?_
  refine tk_sld (pc := 466) (i + 3) d_L_law_466 hro (by rw [hl]; decide) (ix2 i 3) (by omega) (by omega) ?_
  refine tk_aload_n (pc := 467) d_L_law_467 rfl ?_
  refine tk_iload (pc := 468) d_L_law_468 rfl ?_
  refine tk_iconst (pc := 470) (v := 4) d_L_law_470 (by decide) ?_
  refine tk_iadd (pc := 471) d_L_law_471 ?_
  refine tk_sld (pc := 472) (i + 4) d_L_law_472 hro (by rw [hl]; decide) (ix2 i 4) (by omega) (by omega) ?_
  refine tk_callSr (pc := 473) d_L_law_473 l_L_98 k_L_span hM1 (by rw [hl1, hl]) (by decide) hkc hks (Nat.le_of_ble_eq_true rfl) rfl rfl ?_
  refine tk_istore5 (pc := 476) d_L_law_476 rfl (by decide) ?_
  refine tk_aload_n (pc := 478) d_L_law_478 rfl ?_
  refine tk_aload_n (pc := 479) d_L_law_479 rfl ?_
  refine tk_iload (pc := 480) d_L_law_480 rfl ?_
  refine tk_iconst (pc := 482) (v := 1) d_L_law_482 (by decide) ?_
  refine tk_iadd (pc := 483) d_L_law_483 ?_
  refine tk_sld (pc := 484) (i + 1) d_L_law_484 hro (by rw [hl1]; decide) (ix2 i 1) (by omega) (by omega) ?_
  refine tk_aload_n (pc := 485) d_L_law_485 rfl ?_
  refine tk_iload (pc := 486) d_L_law_486 rfl ?_
  refine tk_iconst (pc := 488) (v := 2) d_L_law_488 (by decide) ?_
  refine tk_iadd (pc := 489) d_L_law_489 ?_
  refine tk_sld (pc := 490) (i + 2) d_L_law_490 hro (by rw [hl1]; decide) (ix2 i 2) (by omega) (by omega) ?_
  refine tk_aload_n (pc := 491) d_L_law_491 rfl ?_
  refine tk_iload (pc := 492) d_L_law_492 rfl ?_
  refine tk_iconst (pc := 494) (v := 3) d_L_law_494 (by decide) ?_
  refine tk_iadd (pc := 495) d_L_law_495 ?_
  refine tk_sld (pc := 496) (i + 3) d_L_law_496 hro (by rw [hl1]; decide) (ix2 i 3) (by omega) (by omega) ?_
  refine tk_aload_n (pc := 497) d_L_law_497 rfl ?_
  refine tk_iload (pc := 498) d_L_law_498 rfl ?_
  refine tk_iconst (pc := 500) (v := 4) d_L_law_500 (by decide) ?_
  refine tk_iadd (pc := 501) d_L_law_501 ?_
  refine tk_sld (pc := 502) (i + 4) d_L_law_502 hro (by rw [hl1]; decide) (ix2 i 4) (by omega) (by omega) ?_
  refine tk_callV (pc := 503) d_L_law_503 l_L_100 k_M_span h29 rfl rfl hM2 (by decide) (by omega) (by omega) (Nat.le_of_ble_eq_true rfl) rfl rfl ?_ ?_ ?_
  · intro r x hx
    obtain ⟨-, o', hI'⟩ := hq r x hx
    exact tk_kps_same (by rw [inv_len hI', hl1])
  · intro r x hx
    obtain ⟨hv, o', hI'⟩ := hq _ x hx
    cases hv
    obtain ⟨F2, h292⟩ := inv_29 hI'
    refine tk_aload_n (pc := 506) d_L_law_506 rfl ?_
    refine tk_callVr (pc := 507) d_L_law_507 l_L_79 k_M_thrown h292 rfl rfl (inv_th hI') rfl (by decide) (by omega) (by omega) (Nat.le_of_ble_eq_true rfl) rfl rfl ?_
    refine tk_iload (pc := 510) d_L_law_510 rfl ?_
    refine tk_icmp_eq (pc := 512) (tgt := 517) d_L_law_512 (by decide) (fun hb => ?_) (fun hb => ?_)
    · refine tk_goto (pc := 517) (tgt := 1074) d_L_law_517 (by decide) ?_
      exact K x k o' _ _ hI'
    · exact absurd rfl hb
  · intro C x hx
    obtain ⟨hv, -⟩ := hq _ x hx
    cases hv
set_option maxHeartbeats 1000000 in
theorem lc_most (hro : ro 1000000 = some (L, xs)) (hL : L ≤ 2560) (hi : i + 5 ≤ L) (hI : INV th o w) (hkc : cells + 1 ≤ 1000) (hks : slots + 6 ≤ 10000)
    (K : ∀ (w' : tk_W) (th' : Int32) (o' : Nat → Int64) (p5 p6 : Option Value), INV th' o' w' → LwT nm hh ro Q (cells + 1) (slots + 6) 1074 i p5 p6 w') : LwT nm hh ro Q cells slots 520 i o5 o6 w := by
  obtain ⟨k, w1, hM1, hl1, ⟨F1, h29⟩, Q2, hM2, hq⟩ := op_most hI (xs (i + 1)) (xs (i + 2))
  have hl := inv_len hI
  refine tk_aload_n (pc := 520) d_L_law_520 rfl ?_
  refine tk_aload_n (pc := 521) d_L_law_521 rfl ?_
  refine tk_iload (pc := 522) d_L_law_522 rfl ?_
  refine tk_iconst (pc := 524) (v := 1) d_L_law_524 (by decide) ?_
  refine tk_iadd (pc := 525) d_L_law_525 ?_
  refine tk_sld (pc := 526) (i + 1) d_L_law_526 hro (by rw [hl]; decide) (ix2 i 1) (by omega) (by omega) ?_
  refine tk_aload_n (pc := 527) d_L_law_527 rfl ?_
  refine tk_iload (pc := 528) d_L_law_528 rfl ?_
  refine tk_iconst (pc := 530) (v := 2) d_L_law_530 (by decide) ?_
  refine tk_iadd (pc := 531) d_L_law_531 ?_
  refine tk_sld (pc := 532) (i + 2) d_L_law_532 hro (by rw [hl]; decide) (ix2 i 2) (by omega) (by omega) ?_
  refine tk_callSr (pc := 533) d_L_law_533 l_L_101 k_L_most hM1 (by rw [hl1, hl]) (by decide) hkc hks (Nat.le_of_ble_eq_true rfl) rfl rfl ?_
  refine tk_istore5 (pc := 536) d_L_law_536 rfl (by decide) ?_
  refine tk_aload_n (pc := 538) d_L_law_538 rfl ?_
  refine tk_aload_n (pc := 539) d_L_law_539 rfl ?_
  refine tk_iload (pc := 540) d_L_law_540 rfl ?_
  refine tk_iconst (pc := 542) (v := 1) d_L_law_542 (by decide) ?_
  refine tk_iadd (pc := 543) d_L_law_543 ?_
  refine tk_sld (pc := 544) (i + 1) d_L_law_544 hro (by rw [hl1]; decide) (ix2 i 1) (by omega) (by omega) ?_
  refine tk_aload_n (pc := 545) d_L_law_545 rfl ?_
  refine tk_iload (pc := 546) d_L_law_546 rfl ?_
  refine tk_iconst (pc := 548) (v := 2) d_L_law_548 (by decide) ?_
  refine tk_iadd (pc := 549) d_L_law_549 ?_
  refine tk_sld (pc := 550) (i + 2) d_L_law_550 hro (by rw [hl1]; decide) (ix2 i 2) (by omega) (by omega) ?_
  refine tk_callV (pc := 551) d_L_law_551 l_L_103 k_M_most h29 rfl rfl hM2 (by decide) (by omega) (by omega) (Nat.le_of_ble_eq_true rfl) rfl rfl ?_ ?_ ?_
  · intro r x hx
    obtain ⟨-, o', hI'⟩ := hq r x hx
    exact tk_kps_same (by rw [inv_len hI', hl1])
  · intro r x hx
    obtain ⟨hv, o', hI'⟩ := hq _ x hx
    cases hv
    obtain ⟨F2, h292⟩ := inv_29 hI'
    refine tk_aload_n (pc := 554) d_L_law_554 rfl ?_
    refine tk_callVr (pc := 555) d_L_law_555 l_L_79 k_M_thrown h292 rfl rfl (inv_th hI') rfl (by decide) (by omega) (by omega) (Nat.le_of_ble_eq_true rfl) rfl rfl ?_
    refine tk_iload (pc := 558) d_L_law_558 rfl ?_
    refine tk_icmp_eq (pc := 560) (tgt := 565) d_L_law_560 (by decide) (fun hb => ?_) (fun hb => ?_)
    · refine tk_goto (pc := 565) (tgt := 1074) d_L_law_565 (by decide) ?_
      exact K x k o' _ _ hI'
    · exact absurd rfl hb
  · intro C x hx
    obtain ⟨hv, -⟩ := hq _ x hx
    cases hv
set_option maxHeartbeats 1000000 in
theorem lc_plan (hro : ro 1000000 = some (L, xs)) (hL : L ≤ 2560) (hi : i + 5 ≤ L) (hI : INV th o w) (hkc : cells + 1 ≤ 1000) (hks : slots + 6 ≤ 10000)
    (K : ∀ (w' : tk_W) (th' : Int32) (o' : Nat → Int64) (p5 p6 : Option Value), INV th' o' w' → LwT nm hh ro Q (cells + 1) (slots + 6) 1074 i p5 p6 w') : LwT nm hh ro Q cells slots 568 i o5 o6 w := by
  obtain ⟨k, w1, hM1, hl1, ⟨F1, h29⟩, Q2, hM2, hq⟩ := op_plan hI (xs (i + 1)) (xs (i + 2))
  have hl := inv_len hI
  refine tk_aload_n (pc := 568) d_L_law_568 rfl ?_
  refine tk_aload_n (pc := 569) d_L_law_569 rfl ?_
  refine tk_iload (pc := 570) d_L_law_570 rfl ?_
  refine tk_iconst (pc := 572) (v := 1) d_L_law_572 (by decide) ?_
  refine tk_iadd (pc := 573) d_L_law_573 ?_
  refine tk_sld (pc := 574) (i + 1) d_L_law_574 hro (by rw [hl]; decide) (ix2 i 1) (by omega) (by omega) ?_
  refine tk_aload_n (pc := 575) d_L_law_575 rfl ?_
  refine tk_iload (pc := 576) d_L_law_576 rfl ?_
  refine tk_iconst (pc := 578) (v := 2) d_L_law_578 (by decide) ?_
  refine tk_iadd (pc := 579) d_L_law_579 ?_
  refine tk_sld (pc := 580) (i + 2) d_L_law_580 hro (by rw [hl]; decide) (ix2 i 2) (by omega) (by omega) ?_
  refine tk_aload_n (pc := 581) d_L_law_581 rfl ?_
  refine tk_callSr (pc := 582) d_L_law_582 l_L_104 k_L_plan hM1 (by rw [hl1, hl]) (by decide) hkc hks (Nat.le_of_ble_eq_true rfl) rfl rfl ?_
  refine tk_istore5 (pc := 585) d_L_law_585 rfl (by decide) ?_
  refine tk_aload_n (pc := 587) d_L_law_587 rfl ?_
  refine tk_aload_n (pc := 588) d_L_law_588 rfl ?_
  refine tk_iload (pc := 589) d_L_law_589 rfl ?_
  refine tk_iconst (pc := 591) (v := 1) d_L_law_591 (by decide) ?_
  refine tk_iadd (pc := 592) d_L_law_592 ?_
  refine tk_sld (pc := 593) (i + 1) d_L_law_593 hro (by rw [hl1]; decide) (ix2 i 1) (by omega) (by omega) ?_
  refine tk_aload_n (pc := 594) d_L_law_594 rfl ?_
  refine tk_iload (pc := 595) d_L_law_595 rfl ?_
  refine tk_iconst (pc := 597) (v := 2) d_L_law_597 (by decide) ?_
  refine tk_iadd (pc := 598) d_L_law_598 ?_
  refine tk_sld (pc := 599) (i + 2) d_L_law_599 hro (by rw [hl1]; decide) (ix2 i 2) (by omega) (by omega) ?_
  refine tk_callV (pc := 600) d_L_law_600 l_L_106 k_M_plan h29 rfl rfl hM2 (by decide) (by omega) (by omega) (Nat.le_of_ble_eq_true rfl) rfl rfl ?_ ?_ ?_
  · intro r x hx
    obtain ⟨v, -, o', hI', -⟩ := hq r x hx
    exact tk_kps_same (by rw [inv_len hI', hl1])
  · intro r x hx
    obtain ⟨v, hv, o', hI', hk0⟩ := hq _ x hx
    cases hv
    obtain ⟨F2, h292⟩ := inv_29 hI'
    refine tk_istore6 (pc := 603) d_L_law_603 rfl (by decide) ?_
    refine tk_aload_n (pc := 605) d_L_law_605 rfl ?_
    refine tk_callVr (pc := 606) d_L_law_606 l_L_79 k_M_thrown h292 rfl rfl (inv_th hI') rfl (by decide) (by omega) (by omega) (Nat.le_of_ble_eq_true rfl) rfl rfl ?_
    refine tk_iload (pc := 609) d_L_law_609 rfl ?_
    refine tk_icmp_eq (pc := 611) (tgt := 616) d_L_law_611 (by decide) (fun hb => ?_) (fun hb => ?_)
    · refine tk_iload (pc := 616) d_L_law_616 rfl ?_
      refine tk_if_ne (pc := 618) (tgt := 633) d_L_law_618 (by decide) (fun hc => ?_) (fun hc => ?_)
      · refine tk_goto (pc := 633) (tgt := 1074) d_L_law_633 (by decide) ?_
        exact K x k o' _ _ hI'
      · refine tk_aload_n (pc := 621) d_L_law_621 rfl ?_
        refine tk_iconst (pc := 622) (v := 0) d_L_law_622 (by decide) ?_
        refine tk_lald (pc := 623) 0 d_L_law_623 (inv_45 hI') rfl (by decide) (by decide) ?_
        refine tk_iload (pc := 624) d_L_law_624 rfl ?_
        refine tk_i2l (pc := 626) d_L_law_626 ?_
        refine tk_lcmp (pc := 627) d_L_law_627 ?_
        refine tk_if_eq (pc := 628) (tgt := 633) d_L_law_628 (by decide) (fun hd => ?_) (fun hd => ?_)
        · refine tk_goto (pc := 633) (tgt := 1074) d_L_law_633 (by decide) ?_
          exact K x k o' _ _ hI'
        · exact absurd ((lg_cmp_eq _ _).mpr (hk0 hc)) hd
    · exact absurd rfl hb
  · intro C x hx
    obtain ⟨v, hv, -⟩ := hq _ x hx
    cases hv
set_option maxHeartbeats 1000000 in
theorem lc_planned (hro : ro 1000000 = some (L, xs)) (hL : L ≤ 2560) (hi : i + 5 ≤ L) (hI : INV th o w) (hkc : cells + 1 ≤ 1000) (hks : slots + 6 ≤ 10000)
    (K : ∀ (w' : tk_W) (th' : Int32) (o' : Nat → Int64) (p5 p6 : Option Value), INV th' o' w' → LwT nm hh ro Q (cells + 1) (slots + 6) 1074 i p5 p6 w') : LwT nm hh ro Q cells slots 636 i o5 o6 w := by
  obtain ⟨k, w1, hM1, hl1, ⟨F1, h29⟩, Q2, hM2, hq⟩ := op_planned hI (xs (i + 1))
  have hl := inv_len hI
  refine tk_aload_n (pc := 636) d_L_law_636 rfl ?_
  refine tk_aload_n (pc := 637) d_L_law_637 rfl ?_
  refine tk_iload (pc := 638) d_L_law_638 rfl ?_
  refine tk_iconst (pc := 640) (v := 1) d_L_law_640 (by decide) ?_
  refine tk_iadd (pc := 641) d_L_law_641 ?_
  refine tk_sld (pc := 642) (i + 1) d_L_law_642 hro (by rw [hl]; decide) (ix2 i 1) (by omega) (by omega) ?_
  refine tk_aload_n (pc := 643) d_L_law_643 rfl ?_
  refine tk_callSr (pc := 644) d_L_law_644 l_L_107 k_L_planned hM1 (by rw [hl1, hl]) (by decide) hkc hks (Nat.le_of_ble_eq_true rfl) rfl rfl ?_
  refine tk_istore5 (pc := 647) d_L_law_647 rfl (by decide) ?_
  refine tk_aload_n (pc := 649) d_L_law_649 rfl ?_
  refine tk_aload_n (pc := 650) d_L_law_650 rfl ?_
  refine tk_iload (pc := 651) d_L_law_651 rfl ?_
  refine tk_iconst (pc := 653) (v := 1) d_L_law_653 (by decide) ?_
  refine tk_iadd (pc := 654) d_L_law_654 ?_
  refine tk_sld (pc := 655) (i + 1) d_L_law_655 hro (by rw [hl1]; decide) (ix2 i 1) (by omega) (by omega) ?_
  refine tk_callV (pc := 656) d_L_law_656 l_L_110 k_M_planned h29 rfl rfl hM2 (by decide) (by omega) (by omega) (Nat.le_of_ble_eq_true rfl) rfl rfl ?_ ?_ ?_
  · intro r x hx
    obtain ⟨v, -, o', hI', -⟩ := hq r x hx
    exact tk_kps_same (by rw [inv_len hI', hl1])
  · intro r x hx
    obtain ⟨v, hv, o', hI', hk0⟩ := hq _ x hx
    cases hv
    obtain ⟨F2, h292⟩ := inv_29 hI'
    refine tk_istore6 (pc := 659) d_L_law_659 rfl (by decide) ?_
    refine tk_aload_n (pc := 661) d_L_law_661 rfl ?_
    refine tk_callVr (pc := 662) d_L_law_662 l_L_79 k_M_thrown h292 rfl rfl (inv_th hI') rfl (by decide) (by omega) (by omega) (Nat.le_of_ble_eq_true rfl) rfl rfl ?_
    refine tk_iload (pc := 665) d_L_law_665 rfl ?_
    refine tk_icmp_eq (pc := 667) (tgt := 672) d_L_law_667 (by decide) (fun hb => ?_) (fun hb => ?_)
    · refine tk_iload (pc := 672) d_L_law_672 rfl ?_
      refine tk_if_ne (pc := 674) (tgt := 689) d_L_law_674 (by decide) (fun hc => ?_) (fun hc => ?_)
      · refine tk_goto (pc := 689) (tgt := 1074) d_L_law_689 (by decide) ?_
        exact K x k o' _ _ hI'
      · refine tk_aload_n (pc := 677) d_L_law_677 rfl ?_
        refine tk_iconst (pc := 678) (v := 0) d_L_law_678 (by decide) ?_
        refine tk_lald (pc := 679) 0 d_L_law_679 (inv_45 hI') rfl (by decide) (by decide) ?_
        refine tk_iload (pc := 680) d_L_law_680 rfl ?_
        refine tk_i2l (pc := 682) d_L_law_682 ?_
        refine tk_lcmp (pc := 683) d_L_law_683 ?_
        refine tk_if_eq (pc := 684) (tgt := 689) d_L_law_684 (by decide) (fun hd => ?_) (fun hd => ?_)
        · refine tk_goto (pc := 689) (tgt := 1074) d_L_law_689 (by decide) ?_
          exact K x k o' _ _ hI'
        · exact absurd ((lg_cmp_eq _ _).mpr (hk0 hc)) hd
    · exact absurd rfl hb
  · intro C x hx
    obtain ⟨v, hv, -⟩ := hq _ x hx
    cases hv
set_option maxHeartbeats 1000000 in
theorem lc_amount (hro : ro 1000000 = some (L, xs)) (hL : L ≤ 2560) (hi : i + 5 ≤ L) (hI : INV th o w) (hkc : cells + 1 ≤ 1000) (hks : slots + 6 ≤ 10000)
    (K : ∀ (w' : tk_W) (th' : Int32) (o' : Nat → Int64) (p5 p6 : Option Value), INV th' o' w' → LwT nm hh ro Q (cells + 1) (slots + 6) 1074 i p5 p6 w') : LwT nm hh ro Q cells slots 692 i o5 o6 w := by
  obtain ⟨k, w1, hM1, hl1, ⟨F1, h29⟩, Q2, hM2, hq⟩ := op_amount hI (xs (i + 1)) (xs (i + 2))
  have hl := inv_len hI
  refine tk_aload_n (pc := 692) d_L_law_692 rfl ?_
  refine tk_aload_n (pc := 693) d_L_law_693 rfl ?_
  refine tk_iload (pc := 694) d_L_law_694 rfl ?_
  refine tk_iconst (pc := 696) (v := 1) d_L_law_696 (by decide) ?_
  refine tk_iadd (pc := 697) d_L_law_697 ?_
  refine tk_sld (pc := 698) (i + 1) d_L_law_698 hro (by rw [hl]; decide) (ix2 i 1) (by omega) (by omega) ?_
  refine tk_aload_n (pc := 699) d_L_law_699 rfl ?_
  refine tk_iload (pc := 700) d_L_law_700 rfl ?_
  refine tk_iconst (pc := 702) (v := 2) d_L_law_702 (by decide) ?_
  refine tk_iadd (pc := 703) d_L_law_703 ?_
  refine tk_sld (pc := 704) (i + 2) d_L_law_704 hro (by rw [hl]; decide) (ix2 i 2) (by omega) (by omega) ?_
  refine tk_aload_n (pc := 705) d_L_law_705 rfl ?_
  refine tk_callSr (pc := 706) d_L_law_706 l_L_111 k_L_amount hM1 (by rw [hl1, hl]) (by decide) hkc hks (Nat.le_of_ble_eq_true rfl) rfl rfl ?_
  refine tk_istore5 (pc := 709) d_L_law_709 rfl (by decide) ?_
  refine tk_aload_n (pc := 711) d_L_law_711 rfl ?_
  refine tk_aload_n (pc := 712) d_L_law_712 rfl ?_
  refine tk_iload (pc := 713) d_L_law_713 rfl ?_
  refine tk_iconst (pc := 715) (v := 1) d_L_law_715 (by decide) ?_
  refine tk_iadd (pc := 716) d_L_law_716 ?_
  refine tk_sld (pc := 717) (i + 1) d_L_law_717 hro (by rw [hl1]; decide) (ix2 i 1) (by omega) (by omega) ?_
  refine tk_aload_n (pc := 718) d_L_law_718 rfl ?_
  refine tk_iload (pc := 719) d_L_law_719 rfl ?_
  refine tk_iconst (pc := 721) (v := 2) d_L_law_721 (by decide) ?_
  refine tk_iadd (pc := 722) d_L_law_722 ?_
  refine tk_sld (pc := 723) (i + 2) d_L_law_723 hro (by rw [hl1]; decide) (ix2 i 2) (by omega) (by omega) ?_
  refine tk_callV (pc := 724) d_L_law_724 l_L_113 k_M_amount h29 rfl rfl hM2 (by decide) (by omega) (by omega) (Nat.le_of_ble_eq_true rfl) rfl rfl ?_ ?_ ?_
  · intro r x hx
    obtain ⟨v, -, o', hI', -⟩ := hq r x hx
    exact tk_kps_same (by rw [inv_len hI', hl1])
  · intro r x hx
    obtain ⟨v, hv, o', hI', hk0⟩ := hq _ x hx
    cases hv
    obtain ⟨F2, h292⟩ := inv_29 hI'
    refine tk_istore6 (pc := 727) d_L_law_727 rfl (by decide) ?_
    refine tk_aload_n (pc := 729) d_L_law_729 rfl ?_
    refine tk_callVr (pc := 730) d_L_law_730 l_L_79 k_M_thrown h292 rfl rfl (inv_th hI') rfl (by decide) (by omega) (by omega) (Nat.le_of_ble_eq_true rfl) rfl rfl ?_
    refine tk_iload (pc := 733) d_L_law_733 rfl ?_
    refine tk_icmp_eq (pc := 735) (tgt := 740) d_L_law_735 (by decide) (fun hb => ?_) (fun hb => ?_)
    · refine tk_iload (pc := 740) d_L_law_740 rfl ?_
      refine tk_if_ne (pc := 742) (tgt := 757) d_L_law_742 (by decide) (fun hc => ?_) (fun hc => ?_)
      · refine tk_goto (pc := 757) (tgt := 1074) d_L_law_757 (by decide) ?_
        exact K x k o' _ _ hI'
      · refine tk_aload_n (pc := 745) d_L_law_745 rfl ?_
        refine tk_iconst (pc := 746) (v := 0) d_L_law_746 (by decide) ?_
        refine tk_lald (pc := 747) 0 d_L_law_747 (inv_45 hI') rfl (by decide) (by decide) ?_
        refine tk_iload (pc := 748) d_L_law_748 rfl ?_
        refine tk_i2l (pc := 750) d_L_law_750 ?_
        refine tk_lcmp (pc := 751) d_L_law_751 ?_
        refine tk_if_eq (pc := 752) (tgt := 757) d_L_law_752 (by decide) (fun hd => ?_) (fun hd => ?_)
        · refine tk_goto (pc := 757) (tgt := 1074) d_L_law_757 (by decide) ?_
          exact K x k o' _ _ hI'
        · exact absurd ((lg_cmp_eq _ _).mpr (hk0 hc)) hd
    · exact absurd rfl hb
  · intro C x hx
    obtain ⟨v, hv, -⟩ := hq _ x hx
    cases hv
set_option maxHeartbeats 1000000 in
theorem lc_worst (hro : ro 1000000 = some (L, xs)) (hL : L ≤ 2560) (hi : i + 5 ≤ L) (hI : INV th o w) (hkc : cells + 1 ≤ 1000) (hks : slots + 6 ≤ 10000)
    (K : ∀ (w' : tk_W) (th' : Int32) (o' : Nat → Int64) (p5 p6 : Option Value), INV th' o' w' → LwT nm hh ro Q (cells + 1) (slots + 6) 1074 i p5 p6 w') : LwT nm hh ro Q cells slots 760 i o5 o6 w := by
  obtain ⟨k, w1, hM1, hl1, ⟨F1, h29⟩, Q2, hM2, hq⟩ := op_worst hI (xs (i + 1)) (xs (i + 2)) (xs (i + 3)) (xs (i + 4))
  have hl := inv_len hI
  refine tk_aload_n (pc := 760) d_L_law_760 rfl ?_
  refine tk_aload_n (pc := 761) d_L_law_761 rfl ?_
  refine tk_iload (pc := 762) d_L_law_762 rfl ?_
  refine tk_iconst (pc := 764) (v := 1) d_L_law_764 (by decide) ?_
  refine tk_iadd (pc := 765) d_L_law_765 ?_
  refine tk_sld (pc := 766) (i + 1) d_L_law_766 hro (by rw [hl]; decide) (ix2 i 1) (by omega) (by omega) ?_
  refine tk_aload_n (pc := 767) d_L_law_767 rfl ?_
  refine tk_iload (pc := 768) d_L_law_768 rfl ?_
  refine tk_iconst (pc := 770) (v := 2) d_L_law_770 (by decide) ?_
  refine tk_iadd (pc := 771) d_L_law_771 ?_
  refine tk_sld (pc := 772) (i + 2) d_L_law_772 hro (by rw [hl]; decide) (ix2 i 2) (by omega) (by omega) ?_
  refine tk_aload_n (pc := 773) d_L_law_773 rfl ?_
  refine tk_iload (pc := 774) d_L_law_774 rfl ?_
  refine tk_iconst (pc := 776) (v := 3) d_L_law_776 (by decide) ?_
  refine tk_iadd (pc := 777) d_L_law_777 ?_
  refine tk_sld (pc := 778) (i + 3) d_L_law_778 hro (by rw [hl]; decide) (ix2 i 3) (by omega) (by omega) ?_
  refine tk_aload_n (pc := 779) d_L_law_779 rfl ?_
  refine tk_iload (pc := 780) d_L_law_780 rfl ?_
  refine tk_iconst (pc := 782) (v := 4) d_L_law_782 (by decide) ?_
  refine tk_iadd (pc := 783) d_L_law_783 ?_
  refine tk_sld (pc := 784) (i + 4) d_L_law_784 hro (by rw [hl]; decide) (ix2 i 4) (by omega) (by omega) ?_
  refine tk_aload_n (pc := 785) d_L_law_785 rfl ?_
  refine tk_callSr (pc := 786) d_L_law_786 l_L_114 k_L_worst hM1 (by rw [hl1, hl]) (by decide) hkc hks (Nat.le_of_ble_eq_true rfl) rfl rfl ?_
  refine tk_istore5 (pc := 789) d_L_law_789 rfl (by decide) ?_
  refine tk_aload_n (pc := 791) d_L_law_791 rfl ?_
  refine tk_aload_n (pc := 792) d_L_law_792 rfl ?_
  refine tk_iload (pc := 793) d_L_law_793 rfl ?_
  refine tk_iconst (pc := 795) (v := 1) d_L_law_795 (by decide) ?_
  refine tk_iadd (pc := 796) d_L_law_796 ?_
  refine tk_sld (pc := 797) (i + 1) d_L_law_797 hro (by rw [hl1]; decide) (ix2 i 1) (by omega) (by omega) ?_
  refine tk_aload_n (pc := 798) d_L_law_798 rfl ?_
  refine tk_iload (pc := 799) d_L_law_799 rfl ?_
  refine tk_iconst (pc := 801) (v := 2) d_L_law_801 (by decide) ?_
  refine tk_iadd (pc := 802) d_L_law_802 ?_
  refine tk_sld (pc := 803) (i + 2) d_L_law_803 hro (by rw [hl1]; decide) (ix2 i 2) (by omega) (by omega) ?_
  refine tk_aload_n (pc := 804) d_L_law_804 rfl ?_
  refine tk_iload (pc := 805) d_L_law_805 rfl ?_
  refine tk_iconst (pc := 807) (v := 3) d_L_law_807 (by decide) ?_
  refine tk_iadd (pc := 808) d_L_law_808 ?_
  refine tk_sld (pc := 809) (i + 3) d_L_law_809 hro (by rw [hl1]; decide) (ix2 i 3) (by omega) (by omega) ?_
  refine tk_aload_n (pc := 810) d_L_law_810 rfl ?_
  refine tk_iload (pc := 811) d_L_law_811 rfl ?_
  refine tk_iconst (pc := 813) (v := 4) d_L_law_813 (by decide) ?_
  refine tk_iadd (pc := 814) d_L_law_814 ?_
  refine tk_sld (pc := 815) (i + 4) d_L_law_815 hro (by rw [hl1]; decide) (ix2 i 4) (by omega) (by omega) ?_
  refine tk_callV (pc := 816) d_L_law_816 l_L_117 k_M_worst h29 rfl rfl hM2 (by decide) (by omega) (by omega) (Nat.le_of_ble_eq_true rfl) rfl rfl ?_ ?_ ?_
  · intro r x hx
    obtain ⟨v, -, o', hI', -⟩ := hq r x hx
    exact tk_kps_same (by rw [inv_len hI', hl1])
  · intro r x hx
    obtain ⟨v, hv, o', hI', hk0⟩ := hq _ x hx
    cases hv
    obtain ⟨F2, h292⟩ := inv_29 hI'
    refine tk_lstore6 (pc := 819) d_L_law_819 rfl (by decide) ?_
    refine tk_aload_n (pc := 821) d_L_law_821 rfl ?_
    refine tk_callVr (pc := 822) d_L_law_822 l_L_79 k_M_thrown h292 rfl rfl (inv_th hI') rfl (by decide) (by omega) (by omega) (Nat.le_of_ble_eq_true rfl) rfl rfl ?_
    refine tk_iload (pc := 825) d_L_law_825 rfl ?_
    refine tk_icmp_eq (pc := 827) (tgt := 832) d_L_law_827 (by decide) (fun hb => ?_) (fun hb => ?_)
    · refine tk_iload (pc := 832) d_L_law_832 rfl ?_
      refine tk_if_ne (pc := 834) (tgt := 848) d_L_law_834 (by decide) (fun hc => ?_) (fun hc => ?_)
      · refine tk_goto (pc := 848) (tgt := 1074) d_L_law_848 (by decide) ?_
        exact K x k o' _ _ hI'
      · refine tk_aload_n (pc := 837) d_L_law_837 rfl ?_
        refine tk_iconst (pc := 838) (v := 0) d_L_law_838 (by decide) ?_
        refine tk_lald (pc := 839) 0 d_L_law_839 (inv_45 hI') rfl (by decide) (by decide) ?_
        refine tk_lload (pc := 840) d_L_law_840 rfl ?_
        refine tk_lcmp (pc := 842) d_L_law_842 ?_
        refine tk_if_eq (pc := 843) (tgt := 848) d_L_law_843 (by decide) (fun hd => ?_) (fun hd => ?_)
        · refine tk_goto (pc := 848) (tgt := 1074) d_L_law_848 (by decide) ?_
          exact K x k o' _ _ hI'
        · exact absurd ((lg_cmp_eq _ _).mpr (hk0 hc)) hd
    · exact absurd rfl hb
  · intro C x hx
    obtain ⟨v, hv, -⟩ := hq _ x hx
    cases hv
set_option maxHeartbeats 1000000 in
theorem lc_bound (hro : ro 1000000 = some (L, xs)) (hL : L ≤ 2560) (hi : i + 5 ≤ L) (hI : INV th o w) (hkc : cells + 1 ≤ 1000) (hks : slots + 6 ≤ 10000)
    (K : ∀ (w' : tk_W) (th' : Int32) (o' : Nat → Int64) (p5 p6 : Option Value), INV th' o' w' → LwT nm hh ro Q (cells + 1) (slots + 6) 1074 i p5 p6 w') : LwT nm hh ro Q cells slots 851 i o5 o6 w := by
  obtain ⟨k, w1, hM1, hl1, ⟨F1, h29⟩, Q2, hM2, hq⟩ := op_bound hI (xs (i + 1))
  have hl := inv_len hI
  refine tk_aload_n (pc := 851) d_L_law_851 rfl ?_
  refine tk_aload_n (pc := 852) d_L_law_852 rfl ?_
  refine tk_iload (pc := 853) d_L_law_853 rfl ?_
  refine tk_iconst (pc := 855) (v := 1) d_L_law_855 (by decide) ?_
  refine tk_iadd (pc := 856) d_L_law_856 ?_
  refine tk_sld (pc := 857) (i + 1) d_L_law_857 hro (by rw [hl]; decide) (ix2 i 1) (by omega) (by omega) ?_
  refine tk_aload_n (pc := 858) d_L_law_858 rfl ?_
  refine tk_callSr (pc := 859) d_L_law_859 l_L_118 k_L_bound hM1 (by rw [hl1, hl]) (by decide) hkc hks (Nat.le_of_ble_eq_true rfl) rfl rfl ?_
  refine tk_istore5 (pc := 862) d_L_law_862 rfl (by decide) ?_
  refine tk_aload_n (pc := 864) d_L_law_864 rfl ?_
  refine tk_aload_n (pc := 865) d_L_law_865 rfl ?_
  refine tk_iload (pc := 866) d_L_law_866 rfl ?_
  refine tk_iconst (pc := 868) (v := 1) d_L_law_868 (by decide) ?_
  refine tk_iadd (pc := 869) d_L_law_869 ?_
  refine tk_sld (pc := 870) (i + 1) d_L_law_870 hro (by rw [hl1]; decide) (ix2 i 1) (by omega) (by omega) ?_
  refine tk_callV (pc := 871) d_L_law_871 l_L_120 k_M_bound h29 rfl rfl hM2 (by decide) (by omega) (by omega) (Nat.le_of_ble_eq_true rfl) rfl rfl ?_ ?_ ?_
  · intro r x hx
    obtain ⟨v, -, o', hI', -⟩ := hq r x hx
    exact tk_kps_same (by rw [inv_len hI', hl1])
  · intro r x hx
    obtain ⟨v, hv, o', hI', hk0⟩ := hq _ x hx
    cases hv
    obtain ⟨F2, h292⟩ := inv_29 hI'
    refine tk_lstore6 (pc := 874) d_L_law_874 rfl (by decide) ?_
    refine tk_aload_n (pc := 876) d_L_law_876 rfl ?_
    refine tk_callVr (pc := 877) d_L_law_877 l_L_79 k_M_thrown h292 rfl rfl (inv_th hI') rfl (by decide) (by omega) (by omega) (Nat.le_of_ble_eq_true rfl) rfl rfl ?_
    refine tk_iload (pc := 880) d_L_law_880 rfl ?_
    refine tk_icmp_eq (pc := 882) (tgt := 887) d_L_law_882 (by decide) (fun hb => ?_) (fun hb => ?_)
    · refine tk_iload (pc := 887) d_L_law_887 rfl ?_
      refine tk_if_ne (pc := 889) (tgt := 903) d_L_law_889 (by decide) (fun hc => ?_) (fun hc => ?_)
      · refine tk_goto (pc := 903) (tgt := 1074) d_L_law_903 (by decide) ?_
        exact K x k o' _ _ hI'
      · refine tk_aload_n (pc := 892) d_L_law_892 rfl ?_
        refine tk_iconst (pc := 893) (v := 0) d_L_law_893 (by decide) ?_
        refine tk_lald (pc := 894) 0 d_L_law_894 (inv_45 hI') rfl (by decide) (by decide) ?_
        refine tk_lload (pc := 895) d_L_law_895 rfl ?_
        refine tk_lcmp (pc := 897) d_L_law_897 ?_
        refine tk_if_eq (pc := 898) (tgt := 903) d_L_law_898 (by decide) (fun hd => ?_) (fun hd => ?_)
        · refine tk_goto (pc := 903) (tgt := 1074) d_L_law_903 (by decide) ?_
          exact K x k o' _ _ hI'
        · exact absurd ((lg_cmp_eq _ _).mpr (hk0 hc)) hd
    · exact absurd rfl hb
  · intro C x hx
    obtain ⟨v, hv, -⟩ := hq _ x hx
    cases hv
set_option maxHeartbeats 1000000 in
theorem lc_clash (hro : ro 1000000 = some (L, xs)) (hL : L ≤ 2560) (hi : i + 5 ≤ L) (hI : INV th o w) (hkc : cells + 1 ≤ 1000) (hks : slots + 6 ≤ 10000)
    (K : ∀ (w' : tk_W) (th' : Int32) (o' : Nat → Int64) (p5 p6 : Option Value), INV th' o' w' → LwT nm hh ro Q (cells + 1) (slots + 6) 1074 i p5 p6 w') : LwT nm hh ro Q cells slots 906 i o5 o6 w := by
  obtain ⟨k, w1, hM1, hl1, ⟨F1, h29⟩, Q2, hM2, hq⟩ := op_clash hI (xs (i + 1))
  have hl := inv_len hI
  refine tk_aload_n (pc := 906) d_L_law_906 rfl ?_
  refine tk_aload_n (pc := 907) d_L_law_907 rfl ?_
  refine tk_iload (pc := 908) d_L_law_908 rfl ?_
  refine tk_iconst (pc := 910) (v := 1) d_L_law_910 (by decide) ?_
  refine tk_iadd (pc := 911) d_L_law_911 ?_
  refine tk_sld (pc := 912) (i + 1) d_L_law_912 hro (by rw [hl]; decide) (ix2 i 1) (by omega) (by omega) ?_
  refine tk_aload_n (pc := 913) d_L_law_913 rfl ?_
  refine tk_callSr (pc := 914) d_L_law_914 l_L_121 k_L_clash hM1 (by rw [hl1, hl]) (by decide) hkc hks (Nat.le_of_ble_eq_true rfl) rfl rfl ?_
  refine tk_istore5 (pc := 917) d_L_law_917 rfl (by decide) ?_
  refine tk_aload_n (pc := 919) d_L_law_919 rfl ?_
  refine tk_aload_n (pc := 920) d_L_law_920 rfl ?_
  refine tk_iload (pc := 921) d_L_law_921 rfl ?_
  refine tk_iconst (pc := 923) (v := 1) d_L_law_923 (by decide) ?_
  refine tk_iadd (pc := 924) d_L_law_924 ?_
  refine tk_sld (pc := 925) (i + 1) d_L_law_925 hro (by rw [hl1]; decide) (ix2 i 1) (by omega) (by omega) ?_
  refine tk_callV (pc := 926) d_L_law_926 l_L_123 k_M_clash h29 rfl rfl hM2 (by decide) (by omega) (by omega) (Nat.le_of_ble_eq_true rfl) rfl rfl ?_ ?_ ?_
  · intro r x hx
    obtain ⟨v, -, o', hI', -⟩ := hq r x hx
    exact tk_kps_same (by rw [inv_len hI', hl1])
  · intro r x hx
    obtain ⟨v, hv, o', hI', hk0⟩ := hq _ x hx
    cases hv
    obtain ⟨F2, h292⟩ := inv_29 hI'
    refine tk_istore6 (pc := 929) d_L_law_929 rfl (by decide) ?_
    refine tk_aload_n (pc := 931) d_L_law_931 rfl ?_
    refine tk_callVr (pc := 932) d_L_law_932 l_L_79 k_M_thrown h292 rfl rfl (inv_th hI') rfl (by decide) (by omega) (by omega) (Nat.le_of_ble_eq_true rfl) rfl rfl ?_
    refine tk_iload (pc := 935) d_L_law_935 rfl ?_
    refine tk_icmp_eq (pc := 937) (tgt := 942) d_L_law_937 (by decide) (fun hb => ?_) (fun hb => ?_)
    · refine tk_iload (pc := 942) d_L_law_942 rfl ?_
      refine tk_if_ne (pc := 944) (tgt := 959) d_L_law_944 (by decide) (fun hc => ?_) (fun hc => ?_)
      · refine tk_goto (pc := 959) (tgt := 1074) d_L_law_959 (by decide) ?_
        exact K x k o' _ _ hI'
      · refine tk_aload_n (pc := 947) d_L_law_947 rfl ?_
        refine tk_iconst (pc := 948) (v := 0) d_L_law_948 (by decide) ?_
        refine tk_lald (pc := 949) 0 d_L_law_949 (inv_45 hI') rfl (by decide) (by decide) ?_
        refine tk_iload (pc := 950) d_L_law_950 rfl ?_
        refine tk_i2l (pc := 952) d_L_law_952 ?_
        refine tk_lcmp (pc := 953) d_L_law_953 ?_
        refine tk_if_eq (pc := 954) (tgt := 959) d_L_law_954 (by decide) (fun hd => ?_) (fun hd => ?_)
        · refine tk_goto (pc := 959) (tgt := 1074) d_L_law_959 (by decide) ?_
          exact K x k o' _ _ hI'
        · exact absurd ((lg_cmp_eq _ _).mpr (hk0 hc)) hd
    · exact absurd rfl hb
  · intro C x hx
    obtain ⟨v, hv, -⟩ := hq _ x hx
    cases hv
set_option maxHeartbeats 1000000 in
theorem lc_take (hro : ro 1000000 = some (L, xs)) (hL : L ≤ 2560) (hi : i + 5 ≤ L) (hI : INV th o w) (hkc : cells + 1 ≤ 1000) (hks : slots + 6 ≤ 10000)
    (K : ∀ (w' : tk_W) (th' : Int32) (o' : Nat → Int64) (p5 p6 : Option Value), INV th' o' w' → LwT nm hh ro Q (cells + 1) (slots + 6) 1074 i p5 p6 w') : LwT nm hh ro Q cells slots 962 i o5 o6 w := by
  obtain ⟨k, w1, hM1, hl1, ⟨F1, h29⟩, Q2, hM2, hq⟩ := op_take hI (xs (i + 1))
  have hl := inv_len hI
  refine tk_aload_n (pc := 962) d_L_law_962 rfl ?_
  refine tk_aload_n (pc := 963) d_L_law_963 rfl ?_
  refine tk_iload (pc := 964) d_L_law_964 rfl ?_
  refine tk_iconst (pc := 966) (v := 1) d_L_law_966 (by decide) ?_
  refine tk_iadd (pc := 967) d_L_law_967 ?_
  refine tk_sld (pc := 968) (i + 1) d_L_law_968 hro (by rw [hl]; decide) (ix2 i 1) (by omega) (by omega) ?_
  refine tk_aload_n (pc := 969) d_L_law_969 rfl ?_
  refine tk_callSr (pc := 970) d_L_law_970 l_L_124 k_L_take hM1 (by rw [hl1, hl]) (by decide) hkc hks (Nat.le_of_ble_eq_true rfl) rfl rfl ?_
  refine tk_istore5 (pc := 973) d_L_law_973 rfl (by decide) ?_
  refine tk_aload_n (pc := 975) d_L_law_975 rfl ?_
  refine tk_aload_n (pc := 976) d_L_law_976 rfl ?_
  refine tk_iload (pc := 977) d_L_law_977 rfl ?_
  refine tk_iconst (pc := 979) (v := 1) d_L_law_979 (by decide) ?_
  refine tk_iadd (pc := 980) d_L_law_980 ?_
  refine tk_sld (pc := 981) (i + 1) d_L_law_981 hro (by rw [hl1]; decide) (ix2 i 1) (by omega) (by omega) ?_
  refine tk_callV (pc := 982) d_L_law_982 l_L_126 k_M_take h29 rfl rfl hM2 (by decide) (by omega) (by omega) (Nat.le_of_ble_eq_true rfl) rfl rfl ?_ ?_ ?_
  · intro r x hx
    obtain ⟨v, -, o', hI', -⟩ := hq r x hx
    exact tk_kps_same (by rw [inv_len hI', hl1])
  · intro r x hx
    obtain ⟨v, hv, o', hI', hk0⟩ := hq _ x hx
    cases hv
    obtain ⟨F2, h292⟩ := inv_29 hI'
    refine tk_istore6 (pc := 985) d_L_law_985 rfl (by decide) ?_
    refine tk_aload_n (pc := 987) d_L_law_987 rfl ?_
    refine tk_callVr (pc := 988) d_L_law_988 l_L_79 k_M_thrown h292 rfl rfl (inv_th hI') rfl (by decide) (by omega) (by omega) (Nat.le_of_ble_eq_true rfl) rfl rfl ?_
    refine tk_iload (pc := 991) d_L_law_991 rfl ?_
    refine tk_icmp_eq (pc := 993) (tgt := 998) d_L_law_993 (by decide) (fun hb => ?_) (fun hb => ?_)
    · refine tk_iload (pc := 998) d_L_law_998 rfl ?_
      refine tk_if_ne (pc := 1000) (tgt := 1015) d_L_law_1000 (by decide) (fun hc => ?_) (fun hc => ?_)
      · refine tk_goto (pc := 1015) (tgt := 1074) d_L_law_1015 (by decide) ?_
        exact K x k o' _ _ hI'
      · refine tk_aload_n (pc := 1003) d_L_law_1003 rfl ?_
        refine tk_iconst (pc := 1004) (v := 0) d_L_law_1004 (by decide) ?_
        refine tk_lald (pc := 1005) 0 d_L_law_1005 (inv_45 hI') rfl (by decide) (by decide) ?_
        refine tk_iload (pc := 1006) d_L_law_1006 rfl ?_
        refine tk_i2l (pc := 1008) d_L_law_1008 ?_
        refine tk_lcmp (pc := 1009) d_L_law_1009 ?_
        refine tk_if_eq (pc := 1010) (tgt := 1015) d_L_law_1010 (by decide) (fun hd => ?_) (fun hd => ?_)
        · refine tk_goto (pc := 1015) (tgt := 1074) d_L_law_1015 (by decide) ?_
          exact K x k o' _ _ hI'
        · exact absurd ((lg_cmp_eq _ _).mpr (hk0 hc)) hd
    · exact absurd rfl hb
  · intro C x hx
    obtain ⟨v, hv, -⟩ := hq _ x hx
    cases hv
set_option maxHeartbeats 1000000 in
theorem lc_stock (hro : ro 1000000 = some (L, xs)) (hL : L ≤ 2560) (hi : i + 5 ≤ L) (hI : INV th o w) (hkc : cells + 1 ≤ 1000) (hks : slots + 6 ≤ 10000)
    (K : ∀ (w' : tk_W) (th' : Int32) (o' : Nat → Int64) (p5 p6 : Option Value), INV th' o' w' → LwT nm hh ro Q (cells + 1) (slots + 6) 1074 i p5 p6 w') : LwT nm hh ro Q cells slots 1018 i o5 o6 w := by
  obtain ⟨k, w1, hM1, hl1, ⟨F1, h29⟩, Q2, hM2, hq⟩ := op_stock hI (xs (i + 1))
  have hl := inv_len hI
  refine tk_aload_n (pc := 1018) d_L_law_1018 rfl ?_
  refine tk_aload_n (pc := 1019) d_L_law_1019 rfl ?_
  refine tk_iload (pc := 1020) d_L_law_1020 rfl ?_
  refine tk_iconst (pc := 1022) (v := 1) d_L_law_1022 (by decide) ?_
  refine tk_iadd (pc := 1023) d_L_law_1023 ?_
  refine tk_sld (pc := 1024) (i + 1) d_L_law_1024 hro (by rw [hl]; decide) (ix2 i 1) (by omega) (by omega) ?_
  refine tk_aload_n (pc := 1025) d_L_law_1025 rfl ?_
  refine tk_callSr (pc := 1026) d_L_law_1026 l_L_127 k_L_stock hM1 (by rw [hl1, hl]) (by decide) hkc hks (Nat.le_of_ble_eq_true rfl) rfl rfl ?_
  refine tk_istore5 (pc := 1029) d_L_law_1029 rfl (by decide) ?_
  refine tk_aload_n (pc := 1031) d_L_law_1031 rfl ?_
  refine tk_aload_n (pc := 1032) d_L_law_1032 rfl ?_
  refine tk_iload (pc := 1033) d_L_law_1033 rfl ?_
  refine tk_iconst (pc := 1035) (v := 1) d_L_law_1035 (by decide) ?_
  refine tk_iadd (pc := 1036) d_L_law_1036 ?_
  refine tk_sld (pc := 1037) (i + 1) d_L_law_1037 hro (by rw [hl1]; decide) (ix2 i 1) (by omega) (by omega) ?_
  refine tk_callV (pc := 1038) d_L_law_1038 l_L_129 k_M_stock h29 rfl rfl hM2 (by decide) (by omega) (by omega) (Nat.le_of_ble_eq_true rfl) rfl rfl ?_ ?_ ?_
  · intro r x hx
    obtain ⟨v, -, o', hI', -⟩ := hq r x hx
    exact tk_kps_same (by rw [inv_len hI', hl1])
  · intro r x hx
    obtain ⟨v, hv, o', hI', hk0⟩ := hq _ x hx
    cases hv
    obtain ⟨F2, h292⟩ := inv_29 hI'
    refine tk_istore6 (pc := 1041) d_L_law_1041 rfl (by decide) ?_
    refine tk_aload_n (pc := 1043) d_L_law_1043 rfl ?_
    refine tk_callVr (pc := 1044) d_L_law_1044 l_L_79 k_M_thrown h292 rfl rfl (inv_th hI') rfl (by decide) (by omega) (by omega) (Nat.le_of_ble_eq_true rfl) rfl rfl ?_
    refine tk_iload (pc := 1047) d_L_law_1047 rfl ?_
    refine tk_icmp_eq (pc := 1049) (tgt := 1054) d_L_law_1049 (by decide) (fun hb => ?_) (fun hb => ?_)
    · refine tk_iload (pc := 1054) d_L_law_1054 rfl ?_
      refine tk_if_ne (pc := 1056) (tgt := 1071) d_L_law_1056 (by decide) (fun hc => ?_) (fun hc => ?_)
      · refine tk_goto (pc := 1071) (tgt := 1074) d_L_law_1071 (by decide) ?_
        exact K x k o' _ _ hI'
      · refine tk_aload_n (pc := 1059) d_L_law_1059 rfl ?_
        refine tk_iconst (pc := 1060) (v := 0) d_L_law_1060 (by decide) ?_
        refine tk_lald (pc := 1061) 0 d_L_law_1061 (inv_45 hI') rfl (by decide) (by decide) ?_
        refine tk_iload (pc := 1062) d_L_law_1062 rfl ?_
        refine tk_i2l (pc := 1064) d_L_law_1064 ?_
        refine tk_lcmp (pc := 1065) d_L_law_1065 ?_
        refine tk_if_eq (pc := 1066) (tgt := 1071) d_L_law_1066 (by decide) (fun hd => ?_) (fun hd => ?_)
        · refine tk_goto (pc := 1071) (tgt := 1074) d_L_law_1071 (by decide) ?_
          exact K x k o' _ _ hI'
        · exact absurd ((lg_cmp_eq _ _).mpr (hk0 hc)) hd
    · exact absurd rfl hb
  · intro C x hx
    obtain ⟨v, hv, -⟩ := hq _ x hx
    cases hv
end LAWC
