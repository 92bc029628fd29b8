theorem law_end {p : Program} {l : Launch} {e : Env} {s : State} {m : MethodId} {below : List Frame} {meth : Method} {c : Code} {Γ : Gm} {b cells slots : Nat} {ws : va_W} {lv : List (Option Value)} (C : Cx p room_1 s m #[Value.ref b] meth c cL_law RL 4 Γ (fun q => s.heap.size ≤ q) 8) (hr : meth.sig.returnType = ret) (h1 : cells ≤ 600000) (h2 : slots ≤ 7302250) : WW p l e room_1 s m #[Value.ref b] below meth c cells slots (lw_Z below #[Value.ref b] s) Γ (fun q => s.heap.size ≤ q) 4 ws 869 lv [] := by
  refine ww_iconst (v := 1) C dL_law_869 (by decide) 870 rfl ?_
  intro H locs ls hP hD hS hl
  exact va_forget (fun q hq => hS.2.2 q hq) (W.widen h1 h2 (lw_ret C.1 C.2.1 hr C.2.2.2.2.2.2.2.1 dL_law_870))
theorem law_lt {i L : Nat} (hL : L ≤ 3072) (hi : i ≤ L) (h : ¬ nI i > nI L - 6) : i + 6 ≤ L := by
  rcases Nat.lt_or_ge L 6 with q | q
  · exfalso
    apply h
    have h0 : nI L - 6 < 0 := by
      rcases (show L = 0 ∨ L = 1 ∨ L = 2 ∨ L = 3 ∨ L = 4 ∨ L = 5 by omega) with rfl | rfl | rfl | rfl | rfl | rfl <;> decide
    exact Int32.lt_of_lt_of_le h0 (Int32.not_lt.mp (nI_pos (by omega)))
  · rw [show (6 : Int32) = nI 6 from rfl, pk_sub q] at h
    have := mt (nI_ltI (a := L - 6) (b := i) (by omega) (by omega)).mpr h
    omega
theorem law_in {i L k : Nat} (hL : L ≤ 3072) (h6 : i + 6 ≤ L) (hk : k < 6) : vp_in (nI i + nI k) L := by
  rw [nI_add]; exact vp_in_nI (by omega) (by omega)
set_option maxHeartbeats 4000000 in
theorem law_loop (l : Launch) {p : Program} {e : Env} {s : State} {m : MethodId} {below : List Frame} {meth : Method} {c : Code} {Γ : Gm} {b L hx hm : Nat} {xs : Nat → Int32} {wx0 wm0 : va_W} (C : Cx p room_1 s m #[Value.ref b] meth c cL_law RL 4 Γ (fun q => s.heap.size ≤ q) 8) (hr : meth.sig.returnType = ret) (hX : va_X b L xs s s.heap) (hbl : b < s.heap.size) (hL : L ≤ 3072) (h0 : RelW Γ hx hm wx0 wm0) : WW p l e room_1 s m #[Value.ref b] below meth c 64 5704 (lw_Z below #[Value.ref b] s) Γ (fun q => s.heap.size ≤ q) 4 (wx0 ++ wm0) 18 [some (.ref b), some (.ref hx), some (.ref hm), some (.int (0))] [] := by
  have hbA : ¬ s.heap.size ≤ b := Nat.not_le.mpr hbl
  refine ww_loop (fun x : Nat × va_W × va_W => L - x.1) (fun x => x.1 ≤ L ∧ RelW Γ hx hm x.2.1 x.2.2) (fun x => x.2.1 ++ x.2.2) (fun x => [some (.ref b), some (.ref hx), some (.ref hm), some (.int (nI x.1))]) (0, wx0, wm0) ⟨Nat.zero_le _, h0⟩ rfl rfl (fun x hx9 ih => ?_)
  obtain ⟨i, wx, wm⟩ := x
  obtain ⟨hi, hrel⟩ := hx9
  dsimp only at hi hrel ih ⊢
  refine ww_iload_n (i := 3) C dL_law_18 rfl rfl 19 rfl ?_
  refine ww_aload_n (i := 0) C dL_law_19 rfl rfl 20 rfl ?_
  refine ww_slen C hX hbl hbA dL_law_20 21 rfl ?_
  refine ww_bipush (v := 6) C dL_law_21 (by decide) 23 rfl ?_
  refine ww_isub C dL_law_23 24 rfl ?_
  refine ww_icmp_gt C 869 dL_law_24 (by decide) 27 rfl (fun _ => law_end C hr (by decide) (by decide)) (fun hgt => ?_)
  have h6 := law_lt hL hi hgt
  have hin1 : vp_in (nI i + 1) L := law_in (k := 1) hL h6 (by decide)
  have hin2 : vp_in (nI i + 2) L := law_in (k := 2) hL h6 (by decide)
  have hin3 : vp_in (nI i + 3) L := law_in (k := 3) hL h6 (by decide)
  have hin4 : vp_in (nI i + 4) L := law_in (k := 4) hL h6 (by decide)
  have hin5 : vp_in (nI i + 5) L := law_in (k := 5) hL h6 (by decide)
  have K : ∀ wx' wm', RelW Γ hx hm wx' wm' → WW p l e room_1 s m #[Value.ref b] below meth c 64 5704 (lw_Z below #[Value.ref b] s) Γ (fun q => s.heap.size ≤ q) 4 (wx' ++ wm') 863 [some (.ref b), some (.ref hx), some (.ref hm), some (.int (nI i))] [] := by
    intro wx' wm' hrel'
    refine ww_iinc (y := 6) C dL_law_863 rfl (by decide) (by decide) rfl 866 rfl ?_
    refine ww_goto C 18 dL_law_866 (by decide) ?_
    exact ww_eq rfl (by rw [show (6 : Int32) = nI 6 from rfl, nI_add]; rfl) rfl (ih (i + 6, wx', wm') ⟨h6, hrel'⟩ (by omega))
  have hall := rel_ops l Γ hrel
  obtain ⟨⟨fx, hfx⟩, ⟨fm, hfm⟩, g_sheet, g_set, g_copy, g_drop, g_cast, g_chart, g_at, g_add, g_seen, g_point, g_drawing, g_feed, g_rules, g_fault, g_said, g_holds, g_record, g_worth, g_best, g_kind, g_as, g_ask, g_trace, g_count, g_status⟩ := hall
  refine ww_aload_n (i := 0) C dL_law_27 rfl rfl 28 rfl ?_
  refine ww_iload_n (i := 3) C dL_law_28 rfl rfl 29 rfl ?_
  refine ww_sld C hX hbl hbA (vp_in_nI (by omega) (by omega)) dL_law_29 30 rfl ?_
  refine ww_bipush (v := 31) C dL_law_30 (by decide) 32 rfl ?_
  refine ww_iand C dL_law_32 33 rfl ?_
  refine ww_ts25 C 863 148 191 234 297 320 353 376 399 432 455 468 511 574 587 600 623 646 669 702 715 738 771 804 827 850 dL_law_33 (by decide) (by decide) (by decide) (by decide) (by decide) (by decide) (by decide) (by decide) (by decide) (by decide) (by decide) (by decide) (by decide) (by decide) (by decide) (by decide) (by decide) (by decide) (by decide) (by decide) (by decide) (by decide) (by decide) (by decide) (by decide) (by decide) (fun _ => ?_) (fun _ => ?_) (fun _ => ?_) (fun _ => ?_) (fun _ => ?_) (fun _ => ?_) (fun _ => ?_) (fun _ => ?_) (fun _ => ?_) (fun _ => ?_) (fun _ => ?_) (fun _ => ?_) (fun _ => ?_) (fun _ => ?_) (fun _ => ?_) (fun _ => ?_) (fun _ => ?_) (fun _ => ?_) (fun _ => ?_) (fun _ => ?_) (fun _ => ?_) (fun _ => ?_) (fun _ => ?_) (fun _ => ?_) (fun _ => ?_) (fun _ => K wx wm hrel)
  · skip
    obtain ⟨r, wx', wm', hrel', hcx, hcm⟩ := g_sheet (xs (nI i + 1).toNatClampNeg) (xs (nI i + 2).toNatClampNeg) (xs (nI i + 3).toNatClampNeg)
    refine ww_aload_n (i := 1) C dL_law_148 rfl rfl 149 rfl ?_
    refine ww_aload_n (i := 0) C dL_law_149 rfl rfl 150 rfl ?_
    refine ww_iload_n (i := 3) C dL_law_150 rfl rfl 151 rfl ?_
    refine ww_iconst (v := 1) C dL_law_151 (by decide) 152 rfl ?_
    refine ww_iadd C dL_law_152 153 rfl ?_
    refine ww_sld C hX hbl hbA hin1 dL_law_153 154 rfl ?_
    refine ww_aload_n (i := 0) C dL_law_154 rfl rfl 155 rfl ?_
    refine ww_iload_n (i := 3) C dL_law_155 rfl rfl 156 rfl ?_
    refine ww_iconst (v := 2) C dL_law_156 (by decide) 157 rfl ?_
    refine ww_iadd C dL_law_157 158 rfl ?_
    refine ww_sld C hX hbl hbA hin2 dL_law_158 159 rfl ?_
    refine ww_aload_n (i := 0) C dL_law_159 rfl rfl 160 rfl ?_
    refine ww_iload_n (i := 3) C dL_law_160 rfl rfl 161 rfl ?_
    refine ww_iconst (v := 3) C dL_law_161 (by decide) 162 rfl ?_
    refine ww_iadd C dL_law_162 163 rfl ?_
    refine ww_sld C hX hbl hbA hin3 dL_law_163 164 rfl ?_
    refine ww_callA C hcx mi_X10_sheet im_X10_sheet se_X10_sheet ml_L_13 dL_law_164 hfx rfl rfl (Nat.le_of_ble_eq_true rfl) (Nat.le_of_ble_eq_true rfl) rfl (Nat.le_of_ble_eq_true rfl) ⟨by decide, by decide⟩ 167 rfl rfl ?_
    refine ww_aload_n (i := 2) C dL_law_167 rfl rfl 168 rfl ?_
    refine ww_aload_n (i := 0) C dL_law_168 rfl rfl 169 rfl ?_
    refine ww_iload_n (i := 3) C dL_law_169 rfl rfl 170 rfl ?_
    refine ww_iconst (v := 1) C dL_law_170 (by decide) 171 rfl ?_
    refine ww_iadd C dL_law_171 172 rfl ?_
    refine ww_sld C hX hbl hbA hin1 dL_law_172 173 rfl ?_
    refine ww_aload_n (i := 0) C dL_law_173 rfl rfl 174 rfl ?_
    refine ww_iload_n (i := 3) C dL_law_174 rfl rfl 175 rfl ?_
    refine ww_iconst (v := 2) C dL_law_175 (by decide) 176 rfl ?_
    refine ww_iadd C dL_law_176 177 rfl ?_
    refine ww_sld C hX hbl hbA hin2 dL_law_177 178 rfl ?_
    refine ww_aload_n (i := 0) C dL_law_178 rfl rfl 179 rfl ?_
    refine ww_iload_n (i := 3) C dL_law_179 rfl rfl 180 rfl ?_
    refine ww_iconst (v := 3) C dL_law_180 (by decide) 181 rfl ?_
    refine ww_iadd C dL_law_181 182 rfl ?_
    refine ww_sld C hX hbl hbA hin3 dL_law_182 183 rfl ?_
    refine ww_callA C hcm mi_X11_sheet im_X11_sheet se_X11_sheet ml_L_17 dL_law_183 hfm rfl rfl (Nat.le_of_ble_eq_true rfl) (Nat.le_of_ble_eq_true rfl) rfl (Nat.le_of_ble_eq_true rfl) ⟨by decide, by decide⟩ 186 rfl rfl ?_
    refine ww_icmp_eq C 863 dL_law_186 (by decide) 189 rfl (fun _ => K wx' wm' hrel') (fun hq => absurd rfl hq)
  · skip
    obtain ⟨r, wx', wm', hrel', hcx, hcm⟩ := g_set (xs (nI i + 1).toNatClampNeg) (xs (nI i + 2).toNatClampNeg) (xs (nI i + 3).toNatClampNeg)
    refine ww_aload_n (i := 1) C dL_law_191 rfl rfl 192 rfl ?_
    refine ww_aload_n (i := 0) C dL_law_192 rfl rfl 193 rfl ?_
    refine ww_iload_n (i := 3) C dL_law_193 rfl rfl 194 rfl ?_
    refine ww_iconst (v := 1) C dL_law_194 (by decide) 195 rfl ?_
    refine ww_iadd C dL_law_195 196 rfl ?_
    refine ww_sld C hX hbl hbA hin1 dL_law_196 197 rfl ?_
    refine ww_aload_n (i := 0) C dL_law_197 rfl rfl 198 rfl ?_
    refine ww_iload_n (i := 3) C dL_law_198 rfl rfl 199 rfl ?_
    refine ww_iconst (v := 2) C dL_law_199 (by decide) 200 rfl ?_
    refine ww_iadd C dL_law_200 201 rfl ?_
    refine ww_sld C hX hbl hbA hin2 dL_law_201 202 rfl ?_
    refine ww_aload_n (i := 0) C dL_law_202 rfl rfl 203 rfl ?_
    refine ww_iload_n (i := 3) C dL_law_203 rfl rfl 204 rfl ?_
    refine ww_iconst (v := 3) C dL_law_204 (by decide) 205 rfl ?_
    refine ww_iadd C dL_law_205 206 rfl ?_
    refine ww_sld C hX hbl hbA hin3 dL_law_206 207 rfl ?_
    refine ww_callA C hcx mi_X10_set im_X10_set se_X10_set ml_L_18 dL_law_207 hfx rfl rfl (Nat.le_of_ble_eq_true rfl) (Nat.le_of_ble_eq_true rfl) rfl (Nat.le_of_ble_eq_true rfl) ⟨by decide, by decide⟩ 210 rfl rfl ?_
    refine ww_aload_n (i := 2) C dL_law_210 rfl rfl 211 rfl ?_
    refine ww_aload_n (i := 0) C dL_law_211 rfl rfl 212 rfl ?_
    refine ww_iload_n (i := 3) C dL_law_212 rfl rfl 213 rfl ?_
    refine ww_iconst (v := 1) C dL_law_213 (by decide) 214 rfl ?_
    refine ww_iadd C dL_law_214 215 rfl ?_
    refine ww_sld C hX hbl hbA hin1 dL_law_215 216 rfl ?_
    refine ww_aload_n (i := 0) C dL_law_216 rfl rfl 217 rfl ?_
    refine ww_iload_n (i := 3) C dL_law_217 rfl rfl 218 rfl ?_
    refine ww_iconst (v := 2) C dL_law_218 (by decide) 219 rfl ?_
    refine ww_iadd C dL_law_219 220 rfl ?_
    refine ww_sld C hX hbl hbA hin2 dL_law_220 221 rfl ?_
    refine ww_aload_n (i := 0) C dL_law_221 rfl rfl 222 rfl ?_
    refine ww_iload_n (i := 3) C dL_law_222 rfl rfl 223 rfl ?_
    refine ww_iconst (v := 3) C dL_law_223 (by decide) 224 rfl ?_
    refine ww_iadd C dL_law_224 225 rfl ?_
    refine ww_sld C hX hbl hbA hin3 dL_law_225 226 rfl ?_
    refine ww_callA C hcm mi_X11_set im_X11_set se_X11_set ml_L_21 dL_law_226 hfm rfl rfl (Nat.le_of_ble_eq_true rfl) (Nat.le_of_ble_eq_true rfl) rfl (Nat.le_of_ble_eq_true rfl) ⟨by decide, by decide⟩ 229 rfl rfl ?_
    refine ww_icmp_eq C 863 dL_law_229 (by decide) 232 rfl (fun _ => K wx' wm' hrel') (fun hq => absurd rfl hq)
  · skip
    obtain ⟨r, wx', wm', hrel', hcx, hcm⟩ := g_copy (xs (nI i + 1).toNatClampNeg) (xs (nI i + 2).toNatClampNeg) (xs (nI i + 3).toNatClampNeg) (xs (nI i + 4).toNatClampNeg) (xs (nI i + 5).toNatClampNeg)
    refine ww_aload_n (i := 1) C dL_law_234 rfl rfl 235 rfl ?_
    refine ww_aload_n (i := 0) C dL_law_235 rfl rfl 236 rfl ?_
    refine ww_iload_n (i := 3) C dL_law_236 rfl rfl 237 rfl ?_
    refine ww_iconst (v := 1) C dL_law_237 (by decide) 238 rfl ?_
    refine ww_iadd C dL_law_238 239 rfl ?_
    refine ww_sld C hX hbl hbA hin1 dL_law_239 240 rfl ?_
    refine ww_aload_n (i := 0) C dL_law_240 rfl rfl 241 rfl ?_
    refine ww_iload_n (i := 3) C dL_law_241 rfl rfl 242 rfl ?_
    refine ww_iconst (v := 2) C dL_law_242 (by decide) 243 rfl ?_
    refine ww_iadd C dL_law_243 244 rfl ?_
    refine ww_sld C hX hbl hbA hin2 dL_law_244 245 rfl ?_
    refine ww_aload_n (i := 0) C dL_law_245 rfl rfl 246 rfl ?_
    refine ww_iload_n (i := 3) C dL_law_246 rfl rfl 247 rfl ?_
    refine ww_iconst (v := 3) C dL_law_247 (by decide) 248 rfl ?_
    refine ww_iadd C dL_law_248 249 rfl ?_
    refine ww_sld C hX hbl hbA hin3 dL_law_249 250 rfl ?_
    refine ww_aload_n (i := 0) C dL_law_250 rfl rfl 251 rfl ?_
    refine ww_iload_n (i := 3) C dL_law_251 rfl rfl 252 rfl ?_
    refine ww_iconst (v := 4) C dL_law_252 (by decide) 253 rfl ?_
    refine ww_iadd C dL_law_253 254 rfl ?_
    refine ww_sld C hX hbl hbA hin4 dL_law_254 255 rfl ?_
    refine ww_aload_n (i := 0) C dL_law_255 rfl rfl 256 rfl ?_
    refine ww_iload_n (i := 3) C dL_law_256 rfl rfl 257 rfl ?_
    refine ww_iconst (v := 5) C dL_law_257 (by decide) 258 rfl ?_
    refine ww_iadd C dL_law_258 259 rfl ?_
    refine ww_sld C hX hbl hbA hin5 dL_law_259 260 rfl ?_
    refine ww_callA C hcx mi_X10_copy im_X10_copy se_X10_copy ml_L_22 dL_law_260 hfx rfl rfl (Nat.le_of_ble_eq_true rfl) (Nat.le_of_ble_eq_true rfl) rfl (Nat.le_of_ble_eq_true rfl) ⟨by decide, by decide⟩ 263 rfl rfl ?_
    refine ww_aload_n (i := 2) C dL_law_263 rfl rfl 264 rfl ?_
    refine ww_aload_n (i := 0) C dL_law_264 rfl rfl 265 rfl ?_
    refine ww_iload_n (i := 3) C dL_law_265 rfl rfl 266 rfl ?_
    refine ww_iconst (v := 1) C dL_law_266 (by decide) 267 rfl ?_
    refine ww_iadd C dL_law_267 268 rfl ?_
    refine ww_sld C hX hbl hbA hin1 dL_law_268 269 rfl ?_
    refine ww_aload_n (i := 0) C dL_law_269 rfl rfl 270 rfl ?_
    refine ww_iload_n (i := 3) C dL_law_270 rfl rfl 271 rfl ?_
    refine ww_iconst (v := 2) C dL_law_271 (by decide) 272 rfl ?_
    refine ww_iadd C dL_law_272 273 rfl ?_
    refine ww_sld C hX hbl hbA hin2 dL_law_273 274 rfl ?_
    refine ww_aload_n (i := 0) C dL_law_274 rfl rfl 275 rfl ?_
    refine ww_iload_n (i := 3) C dL_law_275 rfl rfl 276 rfl ?_
    refine ww_iconst (v := 3) C dL_law_276 (by decide) 277 rfl ?_
    refine ww_iadd C dL_law_277 278 rfl ?_
    refine ww_sld C hX hbl hbA hin3 dL_law_278 279 rfl ?_
    refine ww_aload_n (i := 0) C dL_law_279 rfl rfl 280 rfl ?_
    refine ww_iload_n (i := 3) C dL_law_280 rfl rfl 281 rfl ?_
    refine ww_iconst (v := 4) C dL_law_281 (by decide) 282 rfl ?_
    refine ww_iadd C dL_law_282 283 rfl ?_
    refine ww_sld C hX hbl hbA hin4 dL_law_283 284 rfl ?_
    refine ww_aload_n (i := 0) C dL_law_284 rfl rfl 285 rfl ?_
    refine ww_iload_n (i := 3) C dL_law_285 rfl rfl 286 rfl ?_
    refine ww_iconst (v := 5) C dL_law_286 (by decide) 287 rfl ?_
    refine ww_iadd C dL_law_287 288 rfl ?_
    refine ww_sld C hX hbl hbA hin5 dL_law_288 289 rfl ?_
    refine ww_callA C hcm mi_X11_copy im_X11_copy se_X11_copy ml_L_26 dL_law_289 hfm rfl rfl (Nat.le_of_ble_eq_true rfl) (Nat.le_of_ble_eq_true rfl) rfl (Nat.le_of_ble_eq_true rfl) ⟨by decide, by decide⟩ 292 rfl rfl ?_
    refine ww_icmp_eq C 863 dL_law_292 (by decide) 295 rfl (fun _ => K wx' wm' hrel') (fun hq => absurd rfl hq)
  · skip
    obtain ⟨r, wx', wm', hrel', hcx, hcm⟩ := g_drop (xs (nI i + 1).toNatClampNeg)
    refine ww_aload_n (i := 1) C dL_law_297 rfl rfl 298 rfl ?_
    refine ww_aload_n (i := 0) C dL_law_298 rfl rfl 299 rfl ?_
    refine ww_iload_n (i := 3) C dL_law_299 rfl rfl 300 rfl ?_
    refine ww_iconst (v := 1) C dL_law_300 (by decide) 301 rfl ?_
    refine ww_iadd C dL_law_301 302 rfl ?_
    refine ww_sld C hX hbl hbA hin1 dL_law_302 303 rfl ?_
    refine ww_callA C hcx mi_X10_drop im_X10_drop se_X10_drop ml_L_27 dL_law_303 hfx rfl rfl (Nat.le_of_ble_eq_true rfl) (Nat.le_of_ble_eq_true rfl) rfl (Nat.le_of_ble_eq_true rfl) ⟨by decide, by decide⟩ 306 rfl rfl ?_
    refine ww_aload_n (i := 2) C dL_law_306 rfl rfl 307 rfl ?_
    refine ww_aload_n (i := 0) C dL_law_307 rfl rfl 308 rfl ?_
    refine ww_iload_n (i := 3) C dL_law_308 rfl rfl 309 rfl ?_
    refine ww_iconst (v := 1) C dL_law_309 (by decide) 310 rfl ?_
    refine ww_iadd C dL_law_310 311 rfl ?_
    refine ww_sld C hX hbl hbA hin1 dL_law_311 312 rfl ?_
    refine ww_callA C hcm mi_X11_drop im_X11_drop se_X11_drop ml_L_31 dL_law_312 hfm rfl rfl (Nat.le_of_ble_eq_true rfl) (Nat.le_of_ble_eq_true rfl) rfl (Nat.le_of_ble_eq_true rfl) ⟨by decide, by decide⟩ 315 rfl rfl ?_
    refine ww_icmp_eq C 863 dL_law_315 (by decide) 318 rfl (fun _ => K wx' wm' hrel') (fun hq => absurd rfl hq)
  · skip
    obtain ⟨r, wx', wm', hrel', hcx, hcm⟩ := g_cast (xs (nI i + 1).toNatClampNeg) (xs (nI i + 2).toNatClampNeg)
    refine ww_aload_n (i := 1) C dL_law_320 rfl rfl 321 rfl ?_
    refine ww_aload_n (i := 0) C dL_law_321 rfl rfl 322 rfl ?_
    refine ww_iload_n (i := 3) C dL_law_322 rfl rfl 323 rfl ?_
    refine ww_iconst (v := 1) C dL_law_323 (by decide) 324 rfl ?_
    refine ww_iadd C dL_law_324 325 rfl ?_
    refine ww_sld C hX hbl hbA hin1 dL_law_325 326 rfl ?_
    refine ww_aload_n (i := 0) C dL_law_326 rfl rfl 327 rfl ?_
    refine ww_iload_n (i := 3) C dL_law_327 rfl rfl 328 rfl ?_
    refine ww_iconst (v := 2) C dL_law_328 (by decide) 329 rfl ?_
    refine ww_iadd C dL_law_329 330 rfl ?_
    refine ww_sld C hX hbl hbA hin2 dL_law_330 331 rfl ?_
    refine ww_callA C hcx mi_X10_cast im_X10_cast se_X10_cast ml_L_32 dL_law_331 hfx rfl rfl (Nat.le_of_ble_eq_true rfl) (Nat.le_of_ble_eq_true rfl) rfl (Nat.le_of_ble_eq_true rfl) ⟨by decide, by decide⟩ 334 rfl rfl ?_
    refine ww_aload_n (i := 2) C dL_law_334 rfl rfl 335 rfl ?_
    refine ww_aload_n (i := 0) C dL_law_335 rfl rfl 336 rfl ?_
    refine ww_iload_n (i := 3) C dL_law_336 rfl rfl 337 rfl ?_
    refine ww_iconst (v := 1) C dL_law_337 (by decide) 338 rfl ?_
    refine ww_iadd C dL_law_338 339 rfl ?_
    refine ww_sld C hX hbl hbA hin1 dL_law_339 340 rfl ?_
    refine ww_aload_n (i := 0) C dL_law_340 rfl rfl 341 rfl ?_
    refine ww_iload_n (i := 3) C dL_law_341 rfl rfl 342 rfl ?_
    refine ww_iconst (v := 2) C dL_law_342 (by decide) 343 rfl ?_
    refine ww_iadd C dL_law_343 344 rfl ?_
    refine ww_sld C hX hbl hbA hin2 dL_law_344 345 rfl ?_
    refine ww_callA C hcm mi_X11_cast im_X11_cast se_X11_cast ml_L_36 dL_law_345 hfm rfl rfl (Nat.le_of_ble_eq_true rfl) (Nat.le_of_ble_eq_true rfl) rfl (Nat.le_of_ble_eq_true rfl) ⟨by decide, by decide⟩ 348 rfl rfl ?_
    refine ww_icmp_eq C 863 dL_law_348 (by decide) 351 rfl (fun _ => K wx' wm' hrel') (fun hq => absurd rfl hq)
  · skip
    obtain ⟨r, wx', wm', hrel', hcx, hcm⟩ := g_chart (xs (nI i + 1).toNatClampNeg)
    refine ww_aload_n (i := 1) C dL_law_353 rfl rfl 354 rfl ?_
    refine ww_aload_n (i := 0) C dL_law_354 rfl rfl 355 rfl ?_
    refine ww_iload_n (i := 3) C dL_law_355 rfl rfl 356 rfl ?_
    refine ww_iconst (v := 1) C dL_law_356 (by decide) 357 rfl ?_
    refine ww_iadd C dL_law_357 358 rfl ?_
    refine ww_sld C hX hbl hbA hin1 dL_law_358 359 rfl ?_
    refine ww_callA C hcx mi_X10_chart im_X10_chart se_X10_chart ml_L_37 dL_law_359 hfx rfl rfl (Nat.le_of_ble_eq_true rfl) (Nat.le_of_ble_eq_true rfl) rfl (Nat.le_of_ble_eq_true rfl) ⟨by decide, by decide⟩ 362 rfl rfl ?_
    refine ww_aload_n (i := 2) C dL_law_362 rfl rfl 363 rfl ?_
    refine ww_aload_n (i := 0) C dL_law_363 rfl rfl 364 rfl ?_
    refine ww_iload_n (i := 3) C dL_law_364 rfl rfl 365 rfl ?_
    refine ww_iconst (v := 1) C dL_law_365 (by decide) 366 rfl ?_
    refine ww_iadd C dL_law_366 367 rfl ?_
    refine ww_sld C hX hbl hbA hin1 dL_law_367 368 rfl ?_
    refine ww_callA C hcm mi_X11_chart im_X11_chart se_X11_chart ml_L_40 dL_law_368 hfm rfl rfl (Nat.le_of_ble_eq_true rfl) (Nat.le_of_ble_eq_true rfl) rfl (Nat.le_of_ble_eq_true rfl) ⟨by decide, by decide⟩ 371 rfl rfl ?_
    refine ww_icmp_eq C 863 dL_law_371 (by decide) 374 rfl (fun _ => K wx' wm' hrel') (fun hq => absurd rfl hq)
  · skip
    obtain ⟨r, wx', wm', hrel', hcx, hcm⟩ := g_at (xs (nI i + 1).toNatClampNeg)
    refine ww_aload_n (i := 1) C dL_law_376 rfl rfl 377 rfl ?_
    refine ww_aload_n (i := 0) C dL_law_377 rfl rfl 378 rfl ?_
    refine ww_iload_n (i := 3) C dL_law_378 rfl rfl 379 rfl ?_
    refine ww_iconst (v := 1) C dL_law_379 (by decide) 380 rfl ?_
    refine ww_iadd C dL_law_380 381 rfl ?_
    refine ww_sld C hX hbl hbA hin1 dL_law_381 382 rfl ?_
    refine ww_callA C hcx mi_X10_at im_X10_at se_X10_at ml_L_41 dL_law_382 hfx rfl rfl (Nat.le_of_ble_eq_true rfl) (Nat.le_of_ble_eq_true rfl) rfl (Nat.le_of_ble_eq_true rfl) ⟨by decide, by decide⟩ 385 rfl rfl ?_
    refine ww_aload_n (i := 2) C dL_law_385 rfl rfl 386 rfl ?_
    refine ww_aload_n (i := 0) C dL_law_386 rfl rfl 387 rfl ?_
    refine ww_iload_n (i := 3) C dL_law_387 rfl rfl 388 rfl ?_
    refine ww_iconst (v := 1) C dL_law_388 (by decide) 389 rfl ?_
    refine ww_iadd C dL_law_389 390 rfl ?_
    refine ww_sld C hX hbl hbA hin1 dL_law_390 391 rfl ?_
    refine ww_callA C hcm mi_X11_at im_X11_at se_X11_at ml_L_44 dL_law_391 hfm rfl rfl (Nat.le_of_ble_eq_true rfl) (Nat.le_of_ble_eq_true rfl) rfl (Nat.le_of_ble_eq_true rfl) ⟨by decide, by decide⟩ 394 rfl rfl ?_
    refine ww_icmp_eq C 863 dL_law_394 (by decide) 397 rfl (fun _ => K wx' wm' hrel') (fun hq => absurd rfl hq)
  · skip
    obtain ⟨r, wx', wm', hrel', hcx, hcm⟩ := g_add (xs (nI i + 1).toNatClampNeg) (xs (nI i + 2).toNatClampNeg)
    refine ww_aload_n (i := 1) C dL_law_399 rfl rfl 400 rfl ?_
    refine ww_aload_n (i := 0) C dL_law_400 rfl rfl 401 rfl ?_
    refine ww_iload_n (i := 3) C dL_law_401 rfl rfl 402 rfl ?_
    refine ww_iconst (v := 1) C dL_law_402 (by decide) 403 rfl ?_
    refine ww_iadd C dL_law_403 404 rfl ?_
    refine ww_sld C hX hbl hbA hin1 dL_law_404 405 rfl ?_
    refine ww_aload_n (i := 0) C dL_law_405 rfl rfl 406 rfl ?_
    refine ww_iload_n (i := 3) C dL_law_406 rfl rfl 407 rfl ?_
    refine ww_iconst (v := 2) C dL_law_407 (by decide) 408 rfl ?_
    refine ww_iadd C dL_law_408 409 rfl ?_
    refine ww_sld C hX hbl hbA hin2 dL_law_409 410 rfl ?_
    refine ww_callA C hcx mi_X10_add im_X10_add se_X10_add ml_L_45 dL_law_410 hfx rfl rfl (Nat.le_of_ble_eq_true rfl) (Nat.le_of_ble_eq_true rfl) rfl (Nat.le_of_ble_eq_true rfl) ⟨by decide, by decide⟩ 413 rfl rfl ?_
    refine ww_aload_n (i := 2) C dL_law_413 rfl rfl 414 rfl ?_
    refine ww_aload_n (i := 0) C dL_law_414 rfl rfl 415 rfl ?_
    refine ww_iload_n (i := 3) C dL_law_415 rfl rfl 416 rfl ?_
    refine ww_iconst (v := 1) C dL_law_416 (by decide) 417 rfl ?_
    refine ww_iadd C dL_law_417 418 rfl ?_
    refine ww_sld C hX hbl hbA hin1 dL_law_418 419 rfl ?_
    refine ww_aload_n (i := 0) C dL_law_419 rfl rfl 420 rfl ?_
    refine ww_iload_n (i := 3) C dL_law_420 rfl rfl 421 rfl ?_
    refine ww_iconst (v := 2) C dL_law_421 (by decide) 422 rfl ?_
    refine ww_iadd C dL_law_422 423 rfl ?_
    refine ww_sld C hX hbl hbA hin2 dL_law_423 424 rfl ?_
    refine ww_callA C hcm mi_X11_add im_X11_add se_X11_add ml_L_48 dL_law_424 hfm rfl rfl (Nat.le_of_ble_eq_true rfl) (Nat.le_of_ble_eq_true rfl) rfl (Nat.le_of_ble_eq_true rfl) ⟨by decide, by decide⟩ 427 rfl rfl ?_
    refine ww_icmp_eq C 863 dL_law_427 (by decide) 430 rfl (fun _ => K wx' wm' hrel') (fun hq => absurd rfl hq)
  · skip
    obtain ⟨r, wx', wm', hrel', hcx, hcm⟩ := g_seen (xs (nI i + 1).toNatClampNeg)
    refine ww_aload_n (i := 1) C dL_law_432 rfl rfl 433 rfl ?_
    refine ww_aload_n (i := 0) C dL_law_433 rfl rfl 434 rfl ?_
    refine ww_iload_n (i := 3) C dL_law_434 rfl rfl 435 rfl ?_
    refine ww_iconst (v := 1) C dL_law_435 (by decide) 436 rfl ?_
    refine ww_iadd C dL_law_436 437 rfl ?_
    refine ww_sld C hX hbl hbA hin1 dL_law_437 438 rfl ?_
    refine ww_callA C hcx mi_X10_seen im_X10_seen se_X10_seen ml_L_49 dL_law_438 hfx rfl rfl (Nat.le_of_ble_eq_true rfl) (Nat.le_of_ble_eq_true rfl) rfl (Nat.le_of_ble_eq_true rfl) ⟨by decide, by decide⟩ 441 rfl rfl ?_
    refine ww_aload_n (i := 2) C dL_law_441 rfl rfl 442 rfl ?_
    refine ww_aload_n (i := 0) C dL_law_442 rfl rfl 443 rfl ?_
    refine ww_iload_n (i := 3) C dL_law_443 rfl rfl 444 rfl ?_
    refine ww_iconst (v := 1) C dL_law_444 (by decide) 445 rfl ?_
    refine ww_iadd C dL_law_445 446 rfl ?_
    refine ww_sld C hX hbl hbA hin1 dL_law_446 447 rfl ?_
    refine ww_callA C hcm mi_X11_seen im_X11_seen se_X11_seen ml_L_52 dL_law_447 hfm rfl rfl (Nat.le_of_ble_eq_true rfl) (Nat.le_of_ble_eq_true rfl) rfl (Nat.le_of_ble_eq_true rfl) ⟨by decide, by decide⟩ 450 rfl rfl ?_
    refine ww_icmp_eq C 863 dL_law_450 (by decide) 453 rfl (fun _ => K wx' wm' hrel') (fun hq => absurd rfl hq)
  · skip
    obtain ⟨r, wx', wm', hrel', hcx, hcm⟩ := g_point
    refine ww_aload_n (i := 1) C dL_law_455 rfl rfl 456 rfl ?_
    refine ww_callA C hcx mi_X10_point im_X10_point se_X10_point ml_L_53 dL_law_456 hfx rfl rfl (Nat.le_of_ble_eq_true rfl) (Nat.le_of_ble_eq_true rfl) rfl (Nat.le_of_ble_eq_true rfl) ⟨by decide, by decide⟩ 459 rfl rfl ?_
    refine ww_aload_n (i := 2) C dL_law_459 rfl rfl 460 rfl ?_
    refine ww_callA C hcm mi_X11_point im_X11_point se_X11_point ml_L_57 dL_law_460 hfm rfl rfl (Nat.le_of_ble_eq_true rfl) (Nat.le_of_ble_eq_true rfl) rfl (Nat.le_of_ble_eq_true rfl) ⟨by decide, by decide⟩ 463 rfl rfl ?_
    refine ww_icmp_eq C 863 dL_law_463 (by decide) 466 rfl (fun _ => K wx' wm' hrel') (fun hq => absurd rfl hq)
  · skip
    obtain ⟨r, wx', wm', hrel', hcx, hcm⟩ := g_drawing (xs (nI i + 1).toNatClampNeg) (xs (nI i + 2).toNatClampNeg) (xs (nI i + 3).toNatClampNeg)
    refine ww_aload_n (i := 1) C dL_law_468 rfl rfl 469 rfl ?_
    refine ww_aload_n (i := 0) C dL_law_469 rfl rfl 470 rfl ?_
    refine ww_iload_n (i := 3) C dL_law_470 rfl rfl 471 rfl ?_
    refine ww_iconst (v := 1) C dL_law_471 (by decide) 472 rfl ?_
    refine ww_iadd C dL_law_472 473 rfl ?_
    refine ww_sld C hX hbl hbA hin1 dL_law_473 474 rfl ?_
    refine ww_aload_n (i := 0) C dL_law_474 rfl rfl 475 rfl ?_
    refine ww_iload_n (i := 3) C dL_law_475 rfl rfl 476 rfl ?_
    refine ww_iconst (v := 2) C dL_law_476 (by decide) 477 rfl ?_
    refine ww_iadd C dL_law_477 478 rfl ?_
    refine ww_sld C hX hbl hbA hin2 dL_law_478 479 rfl ?_
    refine ww_aload_n (i := 0) C dL_law_479 rfl rfl 480 rfl ?_
    refine ww_iload_n (i := 3) C dL_law_480 rfl rfl 481 rfl ?_
    refine ww_iconst (v := 3) C dL_law_481 (by decide) 482 rfl ?_
    refine ww_iadd C dL_law_482 483 rfl ?_
    refine ww_sld C hX hbl hbA hin3 dL_law_483 484 rfl ?_
    refine ww_callA C hcx mi_X10_drawing im_X10_drawing se_X10_drawing ml_L_58 dL_law_484 hfx rfl rfl (Nat.le_of_ble_eq_true rfl) (Nat.le_of_ble_eq_true rfl) rfl (Nat.le_of_ble_eq_true rfl) ⟨by decide, by decide⟩ 487 rfl rfl ?_
    refine ww_aload_n (i := 2) C dL_law_487 rfl rfl 488 rfl ?_
    refine ww_aload_n (i := 0) C dL_law_488 rfl rfl 489 rfl ?_
    refine ww_iload_n (i := 3) C dL_law_489 rfl rfl 490 rfl ?_
    refine ww_iconst (v := 1) C dL_law_490 (by decide) 491 rfl ?_
    refine ww_iadd C dL_law_491 492 rfl ?_
    refine ww_sld C hX hbl hbA hin1 dL_law_492 493 rfl ?_
    refine ww_aload_n (i := 0) C dL_law_493 rfl rfl 494 rfl ?_
    refine ww_iload_n (i := 3) C dL_law_494 rfl rfl 495 rfl ?_
    refine ww_iconst (v := 2) C dL_law_495 (by decide) 496 rfl ?_
    refine ww_iadd C dL_law_496 497 rfl ?_
    refine ww_sld C hX hbl hbA hin2 dL_law_497 498 rfl ?_
    refine ww_aload_n (i := 0) C dL_law_498 rfl rfl 499 rfl ?_
    refine ww_iload_n (i := 3) C dL_law_499 rfl rfl 500 rfl ?_
    refine ww_iconst (v := 3) C dL_law_500 (by decide) 501 rfl ?_
    refine ww_iadd C dL_law_501 502 rfl ?_
    refine ww_sld C hX hbl hbA hin3 dL_law_502 503 rfl ?_
    refine ww_callA C hcm mi_X11_drawing im_X11_drawing se_X11_drawing ml_L_61 dL_law_503 hfm rfl rfl (Nat.le_of_ble_eq_true rfl) (Nat.le_of_ble_eq_true rfl) rfl (Nat.le_of_ble_eq_true rfl) ⟨by decide, by decide⟩ 506 rfl rfl ?_
    refine ww_icmp_eq C 863 dL_law_506 (by decide) 509 rfl (fun _ => K wx' wm' hrel') (fun hq => absurd rfl hq)
  · skip
    obtain ⟨r, wx', wm', hrel', hcx, hcm⟩ := g_feed (((xs (nI i + 1).toNatClampNeg).toInt64 <<< (Int32.toInt64 32 &&& 63)) ||| ((xs (nI i + 2).toNatClampNeg).toInt64 &&& 4294967295)) (xs (nI i + 3).toNatClampNeg)
    refine ww_aload_n (i := 1) C dL_law_511 rfl rfl 512 rfl ?_
    refine ww_aload_n (i := 0) C dL_law_512 rfl rfl 513 rfl ?_
    refine ww_iload_n (i := 3) C dL_law_513 rfl rfl 514 rfl ?_
    refine ww_iconst (v := 1) C dL_law_514 (by decide) 515 rfl ?_
    refine ww_iadd C dL_law_515 516 rfl ?_
    refine ww_sld C hX hbl hbA hin1 dL_law_516 517 rfl ?_
    refine ww_i2l C dL_law_517 518 rfl ?_
    refine ww_bipush (v := 32) C dL_law_518 (by decide) 520 rfl ?_
    refine ww_lshl C dL_law_520 521 rfl ?_
    refine ww_aload_n (i := 0) C dL_law_521 rfl rfl 522 rfl ?_
    refine ww_iload_n (i := 3) C dL_law_522 rfl rfl 523 rfl ?_
    refine ww_iconst (v := 2) C dL_law_523 (by decide) 524 rfl ?_
    refine ww_iadd C dL_law_524 525 rfl ?_
    refine ww_sld C hX hbl hbA hin2 dL_law_525 526 rfl ?_
    refine ww_i2l C dL_law_526 527 rfl ?_
    refine ww_ldc2 C cn_L_62 dL_law_527 530 rfl ?_
    refine ww_land C dL_law_530 531 rfl ?_
    refine ww_lor C dL_law_531 532 rfl ?_
    refine ww_aload_n (i := 0) C dL_law_532 rfl rfl 533 rfl ?_
    refine ww_iload_n (i := 3) C dL_law_533 rfl rfl 534 rfl ?_
    refine ww_iconst (v := 3) C dL_law_534 (by decide) 535 rfl ?_
    refine ww_iadd C dL_law_535 536 rfl ?_
    refine ww_sld C hX hbl hbA hin3 dL_law_536 537 rfl ?_
    refine ww_callA C hcx mi_X10_feed im_X10_feed se_X10_feed ml_L_64 dL_law_537 hfx rfl rfl (Nat.le_of_ble_eq_true rfl) (Nat.le_of_ble_eq_true rfl) rfl (Nat.le_of_ble_eq_true rfl) ⟨by decide, by decide⟩ 540 rfl rfl ?_
    refine ww_aload_n (i := 2) C dL_law_540 rfl rfl 541 rfl ?_
    refine ww_aload_n (i := 0) C dL_law_541 rfl rfl 542 rfl ?_
    refine ww_iload_n (i := 3) C dL_law_542 rfl rfl 543 rfl ?_
    refine ww_iconst (v := 1) C dL_law_543 (by decide) 544 rfl ?_
    refine ww_iadd C dL_law_544 545 rfl ?_
    refine ww_sld C hX hbl hbA hin1 dL_law_545 546 rfl ?_
    refine ww_i2l C dL_law_546 547 rfl ?_
    refine ww_bipush (v := 32) C dL_law_547 (by decide) 549 rfl ?_
    refine ww_lshl C dL_law_549 550 rfl ?_
    refine ww_aload_n (i := 0) C dL_law_550 rfl rfl 551 rfl ?_
    refine ww_iload_n (i := 3) C dL_law_551 rfl rfl 552 rfl ?_
    refine ww_iconst (v := 2) C dL_law_552 (by decide) 553 rfl ?_
    refine ww_iadd C dL_law_553 554 rfl ?_
    refine ww_sld C hX hbl hbA hin2 dL_law_554 555 rfl ?_
    refine ww_i2l C dL_law_555 556 rfl ?_
    refine ww_ldc2 C cn_L_62 dL_law_556 559 rfl ?_
    refine ww_land C dL_law_559 560 rfl ?_
    refine ww_lor C dL_law_560 561 rfl ?_
    refine ww_aload_n (i := 0) C dL_law_561 rfl rfl 562 rfl ?_
    refine ww_iload_n (i := 3) C dL_law_562 rfl rfl 563 rfl ?_
    refine ww_iconst (v := 3) C dL_law_563 (by decide) 564 rfl ?_
    refine ww_iadd C dL_law_564 565 rfl ?_
    refine ww_sld C hX hbl hbA hin3 dL_law_565 566 rfl ?_
    refine ww_callA C hcm mi_X11_feed im_X11_feed se_X11_feed ml_L_68 dL_law_566 hfm rfl rfl (Nat.le_of_ble_eq_true rfl) (Nat.le_of_ble_eq_true rfl) rfl (Nat.le_of_ble_eq_true rfl) ⟨by decide, by decide⟩ 569 rfl rfl ?_
    refine ww_icmp_eq C 863 dL_law_569 (by decide) 572 rfl (fun _ => K wx' wm' hrel') (fun hq => absurd rfl hq)
  · skip
    obtain ⟨w1, Q1, hc1, hR⟩ := g_rules
    refine ww_aload_n (i := 1) C dL_law_574 rfl rfl 575 rfl ?_
    refine ww_callB C hc1 mi_X10_rules im_X10_rules se_X10_rules ml_L_69 dL_law_575 hfx rfl rfl (Nat.le_of_ble_eq_true rfl) (Nat.le_of_ble_eq_true rfl) rfl (Nat.le_of_ble_eq_true rfl) ⟨by decide, by decide⟩ 578 rfl rfl (fun x hx9 => ?_)
    obtain ⟨Q2, w2, hc2, hR2⟩ := hR x hx9
    refine ww_aload_n (i := 2) C dL_law_578 rfl rfl 579 rfl ?_
    refine ww_callB C hc2 mi_X11_rules im_X11_rules se_X11_rules ml_L_72 dL_law_579 hfm rfl rfl (Nat.le_of_ble_eq_true rfl) (Nat.le_of_ble_eq_true rfl) rfl (Nat.le_of_ble_eq_true rfl) ⟨by decide, by decide⟩ 582 rfl rfl (fun y hy => ?_)
    obtain ⟨e9, wx', is9, hn9, hs9, hrel'⟩ := hR2 y hy
    refine ww_icmp_eq C 863 dL_law_582 (by decide) 585 rfl (fun _ => ?_) (fun hq => absurd e9.symm hq)
    exact ww_perm is9 hn9 hs9 (K wx' (w2 y) hrel')
  · skip
    obtain ⟨r, wx', wm', hrel', hcx, hcm⟩ := g_fault
    refine ww_aload_n (i := 1) C dL_law_587 rfl rfl 588 rfl ?_
    refine ww_callA C hcx mi_X10_fault im_X10_fault se_X10_fault ml_L_73 dL_law_588 hfx rfl rfl (Nat.le_of_ble_eq_true rfl) (Nat.le_of_ble_eq_true rfl) rfl (Nat.le_of_ble_eq_true rfl) ⟨by decide, by decide⟩ 591 rfl rfl ?_
    refine ww_aload_n (i := 2) C dL_law_591 rfl rfl 592 rfl ?_
    refine ww_callA C hcm mi_X11_fault im_X11_fault se_X11_fault ml_L_76 dL_law_592 hfm rfl rfl (Nat.le_of_ble_eq_true rfl) (Nat.le_of_ble_eq_true rfl) rfl (Nat.le_of_ble_eq_true rfl) ⟨by decide, by decide⟩ 595 rfl rfl ?_
    refine ww_icmp_eq C 863 dL_law_595 (by decide) 598 rfl (fun _ => K wx' wm' hrel') (fun hq => absurd rfl hq)
  · skip
    obtain ⟨r, wx', wm', hrel', hcx, hcm⟩ := g_said (xs (nI i + 1).toNatClampNeg)
    refine ww_aload_n (i := 1) C dL_law_600 rfl rfl 601 rfl ?_
    refine ww_aload_n (i := 0) C dL_law_601 rfl rfl 602 rfl ?_
    refine ww_iload_n (i := 3) C dL_law_602 rfl rfl 603 rfl ?_
    refine ww_iconst (v := 1) C dL_law_603 (by decide) 604 rfl ?_
    refine ww_iadd C dL_law_604 605 rfl ?_
    refine ww_sld C hX hbl hbA hin1 dL_law_605 606 rfl ?_
    refine ww_callA C hcx mi_X10_said im_X10_said se_X10_said ml_L_77 dL_law_606 hfx rfl rfl (Nat.le_of_ble_eq_true rfl) (Nat.le_of_ble_eq_true rfl) rfl (Nat.le_of_ble_eq_true rfl) ⟨by decide, by decide⟩ 609 rfl rfl ?_
    refine ww_aload_n (i := 2) C dL_law_609 rfl rfl 610 rfl ?_
    refine ww_aload_n (i := 0) C dL_law_610 rfl rfl 611 rfl ?_
    refine ww_iload_n (i := 3) C dL_law_611 rfl rfl 612 rfl ?_
    refine ww_iconst (v := 1) C dL_law_612 (by decide) 613 rfl ?_
    refine ww_iadd C dL_law_613 614 rfl ?_
    refine ww_sld C hX hbl hbA hin1 dL_law_614 615 rfl ?_
    refine ww_callA C hcm mi_X11_said im_X11_said se_X11_said ml_L_80 dL_law_615 hfm rfl rfl (Nat.le_of_ble_eq_true rfl) (Nat.le_of_ble_eq_true rfl) rfl (Nat.le_of_ble_eq_true rfl) ⟨by decide, by decide⟩ 618 rfl rfl ?_
    refine ww_icmp_eq C 863 dL_law_618 (by decide) 621 rfl (fun _ => K wx' wm' hrel') (fun hq => absurd rfl hq)
  · skip
    obtain ⟨r, wx', wm', hrel', hcx, hcm⟩ := g_holds (xs (nI i + 1).toNatClampNeg)
    refine ww_aload_n (i := 1) C dL_law_623 rfl rfl 624 rfl ?_
    refine ww_aload_n (i := 0) C dL_law_624 rfl rfl 625 rfl ?_
    refine ww_iload_n (i := 3) C dL_law_625 rfl rfl 626 rfl ?_
    refine ww_iconst (v := 1) C dL_law_626 (by decide) 627 rfl ?_
    refine ww_iadd C dL_law_627 628 rfl ?_
    refine ww_sld C hX hbl hbA hin1 dL_law_628 629 rfl ?_
    refine ww_callA C hcx mi_X10_holds im_X10_holds se_X10_holds ml_L_81 dL_law_629 hfx rfl rfl (Nat.le_of_ble_eq_true rfl) (Nat.le_of_ble_eq_true rfl) rfl (Nat.le_of_ble_eq_true rfl) ⟨by decide, by decide⟩ 632 rfl rfl ?_
    refine ww_aload_n (i := 2) C dL_law_632 rfl rfl 633 rfl ?_
    refine ww_aload_n (i := 0) C dL_law_633 rfl rfl 634 rfl ?_
    refine ww_iload_n (i := 3) C dL_law_634 rfl rfl 635 rfl ?_
    refine ww_iconst (v := 1) C dL_law_635 (by decide) 636 rfl ?_
    refine ww_iadd C dL_law_636 637 rfl ?_
    refine ww_sld C hX hbl hbA hin1 dL_law_637 638 rfl ?_
    refine ww_callA C hcm mi_X11_holds im_X11_holds se_X11_holds ml_L_84 dL_law_638 hfm rfl rfl (Nat.le_of_ble_eq_true rfl) (Nat.le_of_ble_eq_true rfl) rfl (Nat.le_of_ble_eq_true rfl) ⟨by decide, by decide⟩ 641 rfl rfl ?_
    refine ww_icmp_eq C 863 dL_law_641 (by decide) 644 rfl (fun _ => K wx' wm' hrel') (fun hq => absurd rfl hq)
  · skip
    obtain ⟨r, wx', wm', hrel', hcx, hcm⟩ := g_record (xs (nI i + 1).toNatClampNeg)
    refine ww_aload_n (i := 1) C dL_law_646 rfl rfl 647 rfl ?_
    refine ww_aload_n (i := 0) C dL_law_647 rfl rfl 648 rfl ?_
    refine ww_iload_n (i := 3) C dL_law_648 rfl rfl 649 rfl ?_
    refine ww_iconst (v := 1) C dL_law_649 (by decide) 650 rfl ?_
    refine ww_iadd C dL_law_650 651 rfl ?_
    refine ww_sld C hX hbl hbA hin1 dL_law_651 652 rfl ?_
    refine ww_callA C hcx mi_X10_record im_X10_record se_X10_record ml_L_85 dL_law_652 hfx rfl rfl (Nat.le_of_ble_eq_true rfl) (Nat.le_of_ble_eq_true rfl) rfl (Nat.le_of_ble_eq_true rfl) ⟨by decide, by decide⟩ 655 rfl rfl ?_
    refine ww_aload_n (i := 2) C dL_law_655 rfl rfl 656 rfl ?_
    refine ww_aload_n (i := 0) C dL_law_656 rfl rfl 657 rfl ?_
    refine ww_iload_n (i := 3) C dL_law_657 rfl rfl 658 rfl ?_
    refine ww_iconst (v := 1) C dL_law_658 (by decide) 659 rfl ?_
    refine ww_iadd C dL_law_659 660 rfl ?_
    refine ww_sld C hX hbl hbA hin1 dL_law_660 661 rfl ?_
    refine ww_callA C hcm mi_X11_record im_X11_record se_X11_record ml_L_88 dL_law_661 hfm rfl rfl (Nat.le_of_ble_eq_true rfl) (Nat.le_of_ble_eq_true rfl) rfl (Nat.le_of_ble_eq_true rfl) ⟨by decide, by decide⟩ 664 rfl rfl ?_
    refine ww_icmp_eq C 863 dL_law_664 (by decide) 667 rfl (fun _ => K wx' wm' hrel') (fun hq => absurd rfl hq)
  · skip
    obtain ⟨r, wx', wm', hrel', hcx, hcm⟩ := g_worth (xs (nI i + 1).toNatClampNeg) (xs (nI i + 2).toNatClampNeg)
    refine ww_aload_n (i := 1) C dL_law_669 rfl rfl 670 rfl ?_
    refine ww_aload_n (i := 0) C dL_law_670 rfl rfl 671 rfl ?_
    refine ww_iload_n (i := 3) C dL_law_671 rfl rfl 672 rfl ?_
    refine ww_iconst (v := 1) C dL_law_672 (by decide) 673 rfl ?_
    refine ww_iadd C dL_law_673 674 rfl ?_
    refine ww_sld C hX hbl hbA hin1 dL_law_674 675 rfl ?_
    refine ww_aload_n (i := 0) C dL_law_675 rfl rfl 676 rfl ?_
    refine ww_iload_n (i := 3) C dL_law_676 rfl rfl 677 rfl ?_
    refine ww_iconst (v := 2) C dL_law_677 (by decide) 678 rfl ?_
    refine ww_iadd C dL_law_678 679 rfl ?_
    refine ww_sld C hX hbl hbA hin2 dL_law_679 680 rfl ?_
    refine ww_callA C hcx mi_X10_worth im_X10_worth se_X10_worth ml_L_89 dL_law_680 hfx rfl rfl (Nat.le_of_ble_eq_true rfl) (Nat.le_of_ble_eq_true rfl) rfl (Nat.le_of_ble_eq_true rfl) ⟨by decide, by decide⟩ 683 rfl rfl ?_
    refine ww_aload_n (i := 2) C dL_law_683 rfl rfl 684 rfl ?_
    refine ww_aload_n (i := 0) C dL_law_684 rfl rfl 685 rfl ?_
    refine ww_iload_n (i := 3) C dL_law_685 rfl rfl 686 rfl ?_
    refine ww_iconst (v := 1) C dL_law_686 (by decide) 687 rfl ?_
    refine ww_iadd C dL_law_687 688 rfl ?_
    refine ww_sld C hX hbl hbA hin1 dL_law_688 689 rfl ?_
    refine ww_aload_n (i := 0) C dL_law_689 rfl rfl 690 rfl ?_
    refine ww_iload_n (i := 3) C dL_law_690 rfl rfl 691 rfl ?_
    refine ww_iconst (v := 2) C dL_law_691 (by decide) 692 rfl ?_
    refine ww_iadd C dL_law_692 693 rfl ?_
    refine ww_sld C hX hbl hbA hin2 dL_law_693 694 rfl ?_
    refine ww_callA C hcm mi_X11_worth im_X11_worth se_X11_worth ml_L_92 dL_law_694 hfm rfl rfl (Nat.le_of_ble_eq_true rfl) (Nat.le_of_ble_eq_true rfl) rfl (Nat.le_of_ble_eq_true rfl) ⟨by decide, by decide⟩ 697 rfl rfl ?_
    refine ww_icmp_eq C 863 dL_law_697 (by decide) 700 rfl (fun _ => K wx' wm' hrel') (fun hq => absurd rfl hq)
  · skip
    obtain ⟨r, wx', wm', hrel', hcx, hcm⟩ := g_best
    refine ww_aload_n (i := 1) C dL_law_702 rfl rfl 703 rfl ?_
    refine ww_callA C hcx mi_X10_best im_X10_best se_X10_best ml_L_93 dL_law_703 hfx rfl rfl (Nat.le_of_ble_eq_true rfl) (Nat.le_of_ble_eq_true rfl) rfl (Nat.le_of_ble_eq_true rfl) ⟨by decide, by decide⟩ 706 rfl rfl ?_
    refine ww_aload_n (i := 2) C dL_law_706 rfl rfl 707 rfl ?_
    refine ww_callA C hcm mi_X11_best im_X11_best se_X11_best ml_L_96 dL_law_707 hfm rfl rfl (Nat.le_of_ble_eq_true rfl) (Nat.le_of_ble_eq_true rfl) rfl (Nat.le_of_ble_eq_true rfl) ⟨by decide, by decide⟩ 710 rfl rfl ?_
    refine ww_icmp_eq C 863 dL_law_710 (by decide) 713 rfl (fun _ => K wx' wm' hrel') (fun hq => absurd rfl hq)
  · skip
    obtain ⟨r, wx', wm', hrel', hcx, hcm⟩ := g_kind (xs (nI i + 1).toNatClampNeg)
    refine ww_aload_n (i := 1) C dL_law_715 rfl rfl 716 rfl ?_
    refine ww_aload_n (i := 0) C dL_law_716 rfl rfl 717 rfl ?_
    refine ww_iload_n (i := 3) C dL_law_717 rfl rfl 718 rfl ?_
    refine ww_iconst (v := 1) C dL_law_718 (by decide) 719 rfl ?_
    refine ww_iadd C dL_law_719 720 rfl ?_
    refine ww_sld C hX hbl hbA hin1 dL_law_720 721 rfl ?_
    refine ww_callA C hcx mi_X10_kind im_X10_kind se_X10_kind ml_L_97 dL_law_721 hfx rfl rfl (Nat.le_of_ble_eq_true rfl) (Nat.le_of_ble_eq_true rfl) rfl (Nat.le_of_ble_eq_true rfl) ⟨by decide, by decide⟩ 724 rfl rfl ?_
    refine ww_aload_n (i := 2) C dL_law_724 rfl rfl 725 rfl ?_
    refine ww_aload_n (i := 0) C dL_law_725 rfl rfl 726 rfl ?_
    refine ww_iload_n (i := 3) C dL_law_726 rfl rfl 727 rfl ?_
    refine ww_iconst (v := 1) C dL_law_727 (by decide) 728 rfl ?_
    refine ww_iadd C dL_law_728 729 rfl ?_
    refine ww_sld C hX hbl hbA hin1 dL_law_729 730 rfl ?_
    refine ww_callA C hcm mi_X11_kind im_X11_kind se_X11_kind ml_L_100 dL_law_730 hfm rfl rfl (Nat.le_of_ble_eq_true rfl) (Nat.le_of_ble_eq_true rfl) rfl (Nat.le_of_ble_eq_true rfl) ⟨by decide, by decide⟩ 733 rfl rfl ?_
    refine ww_icmp_eq C 863 dL_law_733 (by decide) 736 rfl (fun _ => K wx' wm' hrel') (fun hq => absurd rfl hq)
  · skip
    obtain ⟨r, wx', wm', hrel', hcx, hcm⟩ := g_as (xs (nI i + 1).toNatClampNeg) (xs (nI i + 2).toNatClampNeg)
    refine ww_aload_n (i := 1) C dL_law_738 rfl rfl 739 rfl ?_
    refine ww_aload_n (i := 0) C dL_law_739 rfl rfl 740 rfl ?_
    refine ww_iload_n (i := 3) C dL_law_740 rfl rfl 741 rfl ?_
    refine ww_iconst (v := 1) C dL_law_741 (by decide) 742 rfl ?_
    refine ww_iadd C dL_law_742 743 rfl ?_
    refine ww_sld C hX hbl hbA hin1 dL_law_743 744 rfl ?_
    refine ww_aload_n (i := 0) C dL_law_744 rfl rfl 745 rfl ?_
    refine ww_iload_n (i := 3) C dL_law_745 rfl rfl 746 rfl ?_
    refine ww_iconst (v := 2) C dL_law_746 (by decide) 747 rfl ?_
    refine ww_iadd C dL_law_747 748 rfl ?_
    refine ww_sld C hX hbl hbA hin2 dL_law_748 749 rfl ?_
    refine ww_callA C hcx mi_X10_as im_X10_as se_X10_as ml_L_101 dL_law_749 hfx rfl rfl (Nat.le_of_ble_eq_true rfl) (Nat.le_of_ble_eq_true rfl) rfl (Nat.le_of_ble_eq_true rfl) ⟨by decide, by decide⟩ 752 rfl rfl ?_
    refine ww_aload_n (i := 2) C dL_law_752 rfl rfl 753 rfl ?_
    refine ww_aload_n (i := 0) C dL_law_753 rfl rfl 754 rfl ?_
    refine ww_iload_n (i := 3) C dL_law_754 rfl rfl 755 rfl ?_
    refine ww_iconst (v := 1) C dL_law_755 (by decide) 756 rfl ?_
    refine ww_iadd C dL_law_756 757 rfl ?_
    refine ww_sld C hX hbl hbA hin1 dL_law_757 758 rfl ?_
    refine ww_aload_n (i := 0) C dL_law_758 rfl rfl 759 rfl ?_
    refine ww_iload_n (i := 3) C dL_law_759 rfl rfl 760 rfl ?_
    refine ww_iconst (v := 2) C dL_law_760 (by decide) 761 rfl ?_
    refine ww_iadd C dL_law_761 762 rfl ?_
    refine ww_sld C hX hbl hbA hin2 dL_law_762 763 rfl ?_
    refine ww_callA C hcm mi_X11_as im_X11_as se_X11_as ml_L_104 dL_law_763 hfm rfl rfl (Nat.le_of_ble_eq_true rfl) (Nat.le_of_ble_eq_true rfl) rfl (Nat.le_of_ble_eq_true rfl) ⟨by decide, by decide⟩ 766 rfl rfl ?_
    refine ww_icmp_eq C 863 dL_law_766 (by decide) 769 rfl (fun _ => K wx' wm' hrel') (fun hq => absurd rfl hq)
  · skip
    obtain ⟨r, wx', wm', hrel', hcx, hcm⟩ := g_ask (xs (nI i + 1).toNatClampNeg) (xs (nI i + 2).toNatClampNeg)
    refine ww_aload_n (i := 1) C dL_law_771 rfl rfl 772 rfl ?_
    refine ww_aload_n (i := 0) C dL_law_772 rfl rfl 773 rfl ?_
    refine ww_iload_n (i := 3) C dL_law_773 rfl rfl 774 rfl ?_
    refine ww_iconst (v := 1) C dL_law_774 (by decide) 775 rfl ?_
    refine ww_iadd C dL_law_775 776 rfl ?_
    refine ww_sld C hX hbl hbA hin1 dL_law_776 777 rfl ?_
    refine ww_aload_n (i := 0) C dL_law_777 rfl rfl 778 rfl ?_
    refine ww_iload_n (i := 3) C dL_law_778 rfl rfl 779 rfl ?_
    refine ww_iconst (v := 2) C dL_law_779 (by decide) 780 rfl ?_
    refine ww_iadd C dL_law_780 781 rfl ?_
    refine ww_sld C hX hbl hbA hin2 dL_law_781 782 rfl ?_
    refine ww_callA C hcx mi_X10_ask im_X10_ask se_X10_ask ml_L_105 dL_law_782 hfx rfl rfl (Nat.le_of_ble_eq_true rfl) (Nat.le_of_ble_eq_true rfl) rfl (Nat.le_of_ble_eq_true rfl) ⟨by decide, by decide⟩ 785 rfl rfl ?_
    refine ww_aload_n (i := 2) C dL_law_785 rfl rfl 786 rfl ?_
    refine ww_aload_n (i := 0) C dL_law_786 rfl rfl 787 rfl ?_
    refine ww_iload_n (i := 3) C dL_law_787 rfl rfl 788 rfl ?_
    refine ww_iconst (v := 1) C dL_law_788 (by decide) 789 rfl ?_
    refine ww_iadd C dL_law_789 790 rfl ?_
    refine ww_sld C hX hbl hbA hin1 dL_law_790 791 rfl ?_
    refine ww_aload_n (i := 0) C dL_law_791 rfl rfl 792 rfl ?_
    refine ww_iload_n (i := 3) C dL_law_792 rfl rfl 793 rfl ?_
    refine ww_iconst (v := 2) C dL_law_793 (by decide) 794 rfl ?_
    refine ww_iadd C dL_law_794 795 rfl ?_
    refine ww_sld C hX hbl hbA hin2 dL_law_795 796 rfl ?_
    refine ww_callA C hcm mi_X11_ask im_X11_ask se_X11_ask ml_L_108 dL_law_796 hfm rfl rfl (Nat.le_of_ble_eq_true rfl) (Nat.le_of_ble_eq_true rfl) rfl (Nat.le_of_ble_eq_true rfl) ⟨by decide, by decide⟩ 799 rfl rfl ?_
    refine ww_icmp_eq C 863 dL_law_799 (by decide) 802 rfl (fun _ => K wx' wm' hrel') (fun hq => absurd rfl hq)
  · skip
    obtain ⟨r, wx', wm', hrel', hcx, hcm⟩ := g_trace (xs (nI i + 1).toNatClampNeg)
    refine ww_aload_n (i := 1) C dL_law_804 rfl rfl 805 rfl ?_
    refine ww_aload_n (i := 0) C dL_law_805 rfl rfl 806 rfl ?_
    refine ww_iload_n (i := 3) C dL_law_806 rfl rfl 807 rfl ?_
    refine ww_iconst (v := 1) C dL_law_807 (by decide) 808 rfl ?_
    refine ww_iadd C dL_law_808 809 rfl ?_
    refine ww_sld C hX hbl hbA hin1 dL_law_809 810 rfl ?_
    refine ww_callA C hcx mi_X10_trace im_X10_trace se_X10_trace ml_L_109 dL_law_810 hfx rfl rfl (Nat.le_of_ble_eq_true rfl) (Nat.le_of_ble_eq_true rfl) rfl (Nat.le_of_ble_eq_true rfl) ⟨by decide, by decide⟩ 813 rfl rfl ?_
    refine ww_aload_n (i := 2) C dL_law_813 rfl rfl 814 rfl ?_
    refine ww_aload_n (i := 0) C dL_law_814 rfl rfl 815 rfl ?_
    refine ww_iload_n (i := 3) C dL_law_815 rfl rfl 816 rfl ?_
    refine ww_iconst (v := 1) C dL_law_816 (by decide) 817 rfl ?_
    refine ww_iadd C dL_law_817 818 rfl ?_
    refine ww_sld C hX hbl hbA hin1 dL_law_818 819 rfl ?_
    refine ww_callA C hcm mi_X11_trace im_X11_trace se_X11_trace ml_L_112 dL_law_819 hfm rfl rfl (Nat.le_of_ble_eq_true rfl) (Nat.le_of_ble_eq_true rfl) rfl (Nat.le_of_ble_eq_true rfl) ⟨by decide, by decide⟩ 822 rfl rfl ?_
    refine ww_icmp_eq C 863 dL_law_822 (by decide) 825 rfl (fun _ => K wx' wm' hrel') (fun hq => absurd rfl hq)
  · skip
    obtain ⟨r, wx', wm', hrel', hcx, hcm⟩ := g_count (xs (nI i + 1).toNatClampNeg)
    refine ww_aload_n (i := 1) C dL_law_827 rfl rfl 828 rfl ?_
    refine ww_aload_n (i := 0) C dL_law_828 rfl rfl 829 rfl ?_
    refine ww_iload_n (i := 3) C dL_law_829 rfl rfl 830 rfl ?_
    refine ww_iconst (v := 1) C dL_law_830 (by decide) 831 rfl ?_
    refine ww_iadd C dL_law_831 832 rfl ?_
    refine ww_sld C hX hbl hbA hin1 dL_law_832 833 rfl ?_
    refine ww_callA C hcx mi_X10_count im_X10_count se_X10_count ml_L_113 dL_law_833 hfx rfl rfl (Nat.le_of_ble_eq_true rfl) (Nat.le_of_ble_eq_true rfl) rfl (Nat.le_of_ble_eq_true rfl) ⟨by decide, by decide⟩ 836 rfl rfl ?_
    refine ww_aload_n (i := 2) C dL_law_836 rfl rfl 837 rfl ?_
    refine ww_aload_n (i := 0) C dL_law_837 rfl rfl 838 rfl ?_
    refine ww_iload_n (i := 3) C dL_law_838 rfl rfl 839 rfl ?_
    refine ww_iconst (v := 1) C dL_law_839 (by decide) 840 rfl ?_
    refine ww_iadd C dL_law_840 841 rfl ?_
    refine ww_sld C hX hbl hbA hin1 dL_law_841 842 rfl ?_
    refine ww_callA C hcm mi_X11_count im_X11_count se_X11_count ml_L_116 dL_law_842 hfm rfl rfl (Nat.le_of_ble_eq_true rfl) (Nat.le_of_ble_eq_true rfl) rfl (Nat.le_of_ble_eq_true rfl) ⟨by decide, by decide⟩ 845 rfl rfl ?_
    refine ww_icmp_eq C 863 dL_law_845 (by decide) 848 rfl (fun _ => K wx' wm' hrel') (fun hq => absurd rfl hq)
  · skip
    obtain ⟨r, wx', wm', hrel', hcx, hcm⟩ := g_status
    refine ww_aload_n (i := 1) C dL_law_850 rfl rfl 851 rfl ?_
    refine ww_callA C hcx mi_X10_status im_X10_status se_X10_status ml_L_117 dL_law_851 hfx rfl rfl (Nat.le_of_ble_eq_true rfl) (Nat.le_of_ble_eq_true rfl) rfl (Nat.le_of_ble_eq_true rfl) ⟨by decide, by decide⟩ 854 rfl rfl ?_
    refine ww_aload_n (i := 2) C dL_law_854 rfl rfl 855 rfl ?_
    refine ww_callA C hcm mi_X11_status im_X11_status se_X11_status ml_L_120 dL_law_855 hfm rfl rfl (Nat.le_of_ble_eq_true rfl) (Nat.le_of_ble_eq_true rfl) rfl (Nat.le_of_ble_eq_true rfl) ⟨by decide, by decide⟩ 858 rfl rfl ?_
    refine ww_icmp_eq C 863 dL_law_858 (by decide) 861 rfl (fun _ => K wx' wm' hrel') (fun hq => absurd rfl hq)