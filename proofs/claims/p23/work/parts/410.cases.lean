set_option maxHeartbeats 4000000 in
set_option maxRecDepth 20000 in
theorem lc_0 {E : dkE} {l : Launch} {G : dkG} {L : Nat} {xs : Nat → Int32} (hGd : dk_Gd G) (hE : dk_Good E cL_law RL 20 dk_Ty l G 0 4 600000 7302250) (hX : dk_Scx E L xs) (i : Int) (hi : 0 ≤ i ∧ i + 6 ≤ (L : Int) ∧ (L : Int) ≤ 3072) (σ : dkS) (h : LX σ) (K : ∀ σ1 : dkS, LX σ1 → dk_PJ E 1624 [(4, (-40)), (4, 0), (4, 141), (0, i)] [] 190 σ1) : dk_PJ E 200 [(4, (-40)), (4, 0), (4, 141), (0, i)] [] 190 σ := by
  obtain ⟨h, hb0, hb1⟩ := h
  refine dk_aload_n (pc' := 201) hE dL_law_200 rfl rfl rfl ?_
  refine dk_aload_n (pc' := 202) hE dL_law_201 rfl rfl rfl ?_
  refine dk_iload_n (pc' := 203) hE dL_law_202 rfl rfl rfl ?_
  refine dk_iconst (pc' := 204) hE dL_law_203 (by decide) rfl ?_
  obtain ⟨v1, hv1⟩ : ∃ z : Int, z = i + 1 := ⟨_, rfl⟩
  refine dk_iadd (pc' := 205) hE dL_law_204 hv1.symm (by omega) rfl ?_
  refine dk_sldx (pc' := 206) hE hX dL_law_205 (by omega) rfl (fun v2 hiv2 hxv2 => ?_)
  refine dk_aload_n (pc' := 207) hE dL_law_206 rfl rfl rfl ?_
  refine dk_iload_n (pc' := 208) hE dL_law_207 rfl rfl rfl ?_
  refine dk_iconst (pc' := 209) hE dL_law_208 (by decide) rfl ?_
  obtain ⟨v3, hv3⟩ : ∃ z : Int, z = i + 2 := ⟨_, rfl⟩
  refine dk_iadd (pc' := 210) hE dL_law_209 hv3.symm (by omega) rfl ?_
  refine dk_sldx (pc' := 211) hE hX dL_law_210 (by omega) rfl (fun v4 hiv4 hxv4 => ?_)
  refine dk_aload_n (pc' := 212) hE dL_law_211 rfl rfl rfl ?_
  refine dk_iload_n (pc' := 213) hE dL_law_212 rfl rfl rfl ?_
  refine dk_iconst (pc' := 214) hE dL_law_213 (by decide) rfl ?_
  obtain ⟨v5, hv5⟩ : ∃ z : Int, z = i + 3 := ⟨_, rfl⟩
  refine dk_iadd (pc' := 215) hE dL_law_214 hv5.symm (by omega) rfl ?_
  refine dk_sldx (pc' := 216) hE hX dL_law_215 (by omega) rfl (fun v6 hiv6 hxv6 => ?_)
  refine dk_aload_n (pc' := 217) hE dL_law_216 rfl rfl rfl ?_
  refine dk_iload_n (pc' := 218) hE dL_law_217 rfl rfl rfl ?_
  refine dk_iconst (pc' := 219) hE dL_law_218 (by decide) rfl ?_
  obtain ⟨v7, hv7⟩ : ∃ z : Int, z = i + 4 := ⟨_, rfl⟩
  refine dk_iadd (pc' := 220) hE dL_law_219 hv7.symm (by omega) rfl ?_
  refine dk_sldx (pc' := 221) hE hX dL_law_220 (by omega) rfl (fun v8 hiv8 hxv8 => ?_)
  refine dk_aload_n (pc' := 222) hE dL_law_221 rfl rfl rfl ?_
  refine dk_iload_n (pc' := 223) hE dL_law_222 rfl rfl rfl ?_
  refine dk_iconst (pc' := 224) hE dL_law_223 (by decide) rfl ?_
  obtain ⟨v9, hv9⟩ : ∃ z : Int, z = i + 5 := ⟨_, rfl⟩
  refine dk_iadd (pc' := 225) hE dL_law_224 hv9.symm (by omega) rfl ?_
  refine dk_sldx (pc' := 226) hE hX dL_law_225 (by omega) rfl (fun v10 hiv10 hxv10 => ?_)
  refine dk_cL (pc' := 229) (as := [(0, v2), (0, v4), (0, v6), (0, v8), (0, v10)]) hE lk_L_13 (ct_X10_feed l G hGd v2 v4 v6 v8 v10) dL_law_226 rfl is_0 rfl (by decide) (Nat.le_of_ble_eq_true rfl) rfl rfl (fun r12 σ11 hr12 _ => ?_)
  obtain ⟨v13, rfl, hfσ11, hpr12⟩ := hr12
  have hzσ110_12 := hfσ11 0 12 (by omega)
  have hzσ11141_52 := hfσ11 141 52 (by omega)
  have hzσ1137_8 := hfσ11 37 8 (by omega)
  have hzσ11141_54 := hfσ11 141 54 (by omega)
  have L14 : LI σ11 := ⟨GI_fr h.1 (fun k j q => hfσ11 k j (by omega)), by rw [hfσ11 0 9 (by omega)]; exact h.2.1, MI_fr h.2.2 (fun k j q => hfσ11 k j (by omega))⟩
  refine dk_pop (pc' := 230) hE dL_law_229 (show (0 : Nat) ≠ 3 by decide) rfl ?_
  refine dk_aload_n (pc' := 231) hE dL_law_230 rfl rfl rfl ?_
  refine dk_aload_n (pc' := 232) hE dL_law_231 rfl rfl rfl ?_
  refine dk_iload_n (pc' := 233) hE dL_law_232 rfl rfl rfl ?_
  refine dk_iconst (pc' := 234) hE dL_law_233 (by decide) rfl ?_
  obtain ⟨v15, hv15⟩ : ∃ z : Int, z = i + 1 := ⟨_, rfl⟩
  refine dk_iadd (pc' := 235) hE dL_law_234 hv15.symm (by omega) rfl ?_
  refine dk_sldx (pc' := 236) hE hX dL_law_235 (by omega) rfl (fun v16 hiv16 hxv16 => ?_)
  have hqv16 : v16 = v2 := by rw [hxv16, hxv2, show v15 = v1 by omega]
  refine dk_aload_n (pc' := 237) hE dL_law_236 rfl rfl rfl ?_
  refine dk_iload_n (pc' := 238) hE dL_law_237 rfl rfl rfl ?_
  refine dk_iconst (pc' := 239) hE dL_law_238 (by decide) rfl ?_
  obtain ⟨v17, hv17⟩ : ∃ z : Int, z = i + 2 := ⟨_, rfl⟩
  refine dk_iadd (pc' := 240) hE dL_law_239 hv17.symm (by omega) rfl ?_
  refine dk_sldx (pc' := 241) hE hX dL_law_240 (by omega) rfl (fun v18 hiv18 hxv18 => ?_)
  have hqv18 : v18 = v4 := by rw [hxv18, hxv4, show v17 = v3 by omega]
  refine dk_aload_n (pc' := 242) hE dL_law_241 rfl rfl rfl ?_
  refine dk_iload_n (pc' := 243) hE dL_law_242 rfl rfl rfl ?_
  refine dk_iconst (pc' := 244) hE dL_law_243 (by decide) rfl ?_
  obtain ⟨v19, hv19⟩ : ∃ z : Int, z = i + 3 := ⟨_, rfl⟩
  refine dk_iadd (pc' := 245) hE dL_law_244 hv19.symm (by omega) rfl ?_
  refine dk_sldx (pc' := 246) hE hX dL_law_245 (by omega) rfl (fun v20 hiv20 hxv20 => ?_)
  have hqv20 : v20 = v6 := by rw [hxv20, hxv6, show v19 = v5 by omega]
  refine dk_aload_n (pc' := 247) hE dL_law_246 rfl rfl rfl ?_
  refine dk_iload_n (pc' := 248) hE dL_law_247 rfl rfl rfl ?_
  refine dk_iconst (pc' := 249) hE dL_law_248 (by decide) rfl ?_
  obtain ⟨v21, hv21⟩ : ∃ z : Int, z = i + 4 := ⟨_, rfl⟩
  refine dk_iadd (pc' := 250) hE dL_law_249 hv21.symm (by omega) rfl ?_
  refine dk_sldx (pc' := 251) hE hX dL_law_250 (by omega) rfl (fun v22 hiv22 hxv22 => ?_)
  have hqv22 : v22 = v8 := by rw [hxv22, hxv8, show v21 = v7 by omega]
  refine dk_aload_n (pc' := 252) hE dL_law_251 rfl rfl rfl ?_
  refine dk_iload_n (pc' := 253) hE dL_law_252 rfl rfl rfl ?_
  refine dk_iconst (pc' := 254) hE dL_law_253 (by decide) rfl ?_
  obtain ⟨v23, hv23⟩ : ∃ z : Int, z = i + 5 := ⟨_, rfl⟩
  refine dk_iadd (pc' := 255) hE dL_law_254 hv23.symm (by omega) rfl ?_
  refine dk_sldx (pc' := 256) hE hX dL_law_255 (by omega) rfl (fun v24 hiv24 hxv24 => ?_)
  have hqv24 : v24 = v10 := by rw [hxv24, hxv10, show v23 = v9 by omega]
  refine dk_cL (pc' := 259) (as := [(0, v16), (0, v18), (0, v20), (0, v22), (0, v24)]) hE lk_L_17 (ct_X11_feed l G hGd v16 v18 v20 v22 v24) dL_law_256 rfl is_141 rfl (by decide) (Nat.le_of_ble_eq_true rfl) rfl rfl (fun r26 σ25 hr26 _ => ?_)
  obtain ⟨v27, rfl, hfσ25, hpr26⟩ := hr26
  have hzσ250_12 := hfσ25 0 12 (by omega)
  have hzσ25141_52 := hfσ25 141 52 (by omega)
  have hzσ2537_8 := hfσ25 37 8 (by omega)
  have hzσ25141_54 := hfσ25 141 54 (by omega)
  have L28 : LI σ25 := ⟨GI_fr L14.1 (fun k j q => hfσ25 k j (by omega)), by rw [hfσ25 0 9 (by omega)]; exact L14.2.1, MI_fr L14.2.2 (fun k j q => hfσ25 k j (by omega))⟩
  refine dk_pop (pc' := 260) hE dL_law_259 (show (0 : Nat) ≠ 3 by decide) rfl ?_
  refine dk_goto (tgt := 1624) hE dL_law_260 (by decide) ?_
  exact K σ25 ⟨L28, by omega, by omega⟩
set_option maxHeartbeats 4000000 in
set_option maxRecDepth 20000 in
theorem lc_1 {E : dkE} {l : Launch} {G : dkG} {L : Nat} {xs : Nat → Int32} (hGd : dk_Gd G) (hE : dk_Good E cL_law RL 20 dk_Ty l G 0 4 600000 7302250) (hX : dk_Scx E L xs) (i : Int) (hi : 0 ≤ i ∧ i + 6 ≤ (L : Int) ∧ (L : Int) ≤ 3072) (σ : dkS) (h : LX σ) (K : ∀ σ1 : dkS, LX σ1 → dk_PJ E 1624 [(4, (-40)), (4, 0), (4, 141), (0, i)] [] 190 σ1) : dk_PJ E 263 [(4, (-40)), (4, 0), (4, 141), (0, i)] [] 190 σ := by
  obtain ⟨h, hb0, hb1⟩ := h
  refine dk_aload_n (pc' := 264) hE dL_law_263 rfl rfl rfl ?_
  refine dk_aload_n (pc' := 265) hE dL_law_264 rfl rfl rfl ?_
  refine dk_iload_n (pc' := 266) hE dL_law_265 rfl rfl rfl ?_
  refine dk_iconst (pc' := 267) hE dL_law_266 (by decide) rfl ?_
  obtain ⟨v1, hv1⟩ : ∃ z : Int, z = i + 1 := ⟨_, rfl⟩
  refine dk_iadd (pc' := 268) hE dL_law_267 hv1.symm (by omega) rfl ?_
  refine dk_sldx (pc' := 269) hE hX dL_law_268 (by omega) rfl (fun v2 hiv2 hxv2 => ?_)
  refine dk_cL (pc' := 272) (as := [(0, v2)]) hE lk_L_18 (ct_X10_end l G hGd v2) dL_law_269 rfl is_0 rfl (by decide) (Nat.le_of_ble_eq_true rfl) rfl rfl (fun r4 σ3 hr4 _ => ?_)
  obtain ⟨v5, rfl, hfσ3, hpr4⟩ := hr4
  have hzσ30_12 := hfσ3 0 12 (by omega)
  have hzσ3141_52 := hfσ3 141 52 (by omega)
  have hzσ337_8 := hfσ3 37 8 (by omega)
  have hzσ3141_54 := hfσ3 141 54 (by omega)
  have L6 : LI σ3 := ⟨GI_fr h.1 (fun k j q => hfσ3 k j (by omega)), by rw [hfσ3 0 9 (by omega)]; exact h.2.1, MI_fr h.2.2 (fun k j q => hfσ3 k j (by omega))⟩
  refine dk_pop (pc' := 273) hE dL_law_272 (show (0 : Nat) ≠ 3 by decide) rfl ?_
  refine dk_aload_n (pc' := 274) hE dL_law_273 rfl rfl rfl ?_
  refine dk_aload_n (pc' := 275) hE dL_law_274 rfl rfl rfl ?_
  refine dk_iload_n (pc' := 276) hE dL_law_275 rfl rfl rfl ?_
  refine dk_iconst (pc' := 277) hE dL_law_276 (by decide) rfl ?_
  obtain ⟨v7, hv7⟩ : ∃ z : Int, z = i + 1 := ⟨_, rfl⟩
  refine dk_iadd (pc' := 278) hE dL_law_277 hv7.symm (by omega) rfl ?_
  refine dk_sldx (pc' := 279) hE hX dL_law_278 (by omega) rfl (fun v8 hiv8 hxv8 => ?_)
  have hqv8 : v8 = v2 := by rw [hxv8, hxv2, show v7 = v1 by omega]
  refine dk_cL (pc' := 282) (as := [(0, v8)]) hE lk_L_22 (ct_X11_end l G hGd v8) dL_law_279 rfl is_141 rfl (by decide) (Nat.le_of_ble_eq_true rfl) rfl rfl (fun r10 σ9 hr10 _ => ?_)
  obtain ⟨v11, rfl, hfσ9, hpr10⟩ := hr10
  have hzσ90_12 := hfσ9 0 12 (by omega)
  have hzσ9141_52 := hfσ9 141 52 (by omega)
  have hzσ937_8 := hfσ9 37 8 (by omega)
  have hzσ9141_54 := hfσ9 141 54 (by omega)
  have L12 : LI σ9 := ⟨GI_fr L6.1 (fun k j q => hfσ9 k j (by omega)), by rw [hfσ9 0 9 (by omega)]; exact L6.2.1, MI_fr L6.2.2 (fun k j q => hfσ9 k j (by omega))⟩
  refine dk_pop (pc' := 283) hE dL_law_282 (show (0 : Nat) ≠ 3 by decide) rfl ?_
  refine dk_goto (tgt := 1624) hE dL_law_283 (by decide) ?_
  exact K σ9 ⟨L12, by omega, by omega⟩
set_option maxHeartbeats 4000000 in
set_option maxRecDepth 20000 in
theorem lc_2 {E : dkE} {l : Launch} {G : dkG} {L : Nat} {xs : Nat → Int32} (hGd : dk_Gd G) (hE : dk_Good E cL_law RL 20 dk_Ty l G 0 4 600000 7302250) (hX : dk_Scx E L xs) (i : Int) (hi : 0 ≤ i ∧ i + 6 ≤ (L : Int) ∧ (L : Int) ≤ 3072) (σ : dkS) (h : LX σ) (K : ∀ σ1 : dkS, LX σ1 → dk_PJ E 1624 [(4, (-40)), (4, 0), (4, 141), (0, i)] [] 190 σ1) : dk_PJ E 286 [(4, (-40)), (4, 0), (4, 141), (0, i)] [] 190 σ := by
  obtain ⟨h, hb0, hb1⟩ := h
  refine dk_aload_n (pc' := 287) hE dL_law_286 rfl rfl rfl ?_
  refine dk_cL (pc' := 290) (as := []) hE lk_L_23 (ct_X10_works l G hGd (σ 0 9)) dL_law_287 rfl is_0 rfl (by decide) (Nat.le_of_ble_eq_true rfl) ⟨rfl, h.1, h.2.1, rfl⟩ rfl (fun r2 σ1 hr2 _ => ?_)
  obtain ⟨v3, rfl, hfσ1, hpr2⟩ := hr2
  have hzσ10_12 := hfσ1 0 12 (by omega)
  have hzσ1141_52 := hfσ1 141 52 (by omega)
  have hzσ137_8 := hfσ1 37 8 (by omega)
  have hzσ1141_54 := hfσ1 141 54 (by omega)
  have L4 : LI σ1 := ⟨hpr2.1, hpr2.2, MI_fr h.2.2 (fun k j q => hfσ1 k j (by omega))⟩
  refine dk_pop (pc' := 291) hE dL_law_290 (show (0 : Nat) ≠ 3 by decide) rfl ?_
  refine dk_aload_n (pc' := 292) hE dL_law_291 rfl rfl rfl ?_
  refine dk_cL (pc' := 295) (as := []) hE lk_L_27 (ct_X11_works l G hGd (1 - σ1 141 27)) dL_law_292 rfl is_141 rfl (by decide) (Nat.le_of_ble_eq_true rfl) ⟨rfl, L4.2.2, rfl⟩ rfl (fun r6 σ5 hr6 _ => ?_)
  obtain ⟨v7, rfl, hfσ5, hpr6⟩ := hr6
  have hzσ50_12 := hfσ5 0 12 (by omega)
  have hzσ5141_52 := hfσ5 141 52 (by omega)
  have hzσ537_8 := hfσ5 37 8 (by omega)
  have hzσ5141_54 := hfσ5 141 54 (by omega)
  have L8 : LI σ5 := ⟨GI_fr L4.1 (fun k j q => hfσ5 k j (by omega)), by rw [hfσ5 0 9 (by omega)]; exact L4.2.1, hpr6⟩
  refine dk_pop (pc' := 296) hE dL_law_295 (show (0 : Nat) ≠ 3 by decide) rfl ?_
  refine dk_goto (tgt := 1624) hE dL_law_296 (by decide) ?_
  exact K σ5 ⟨L8, by omega, by omega⟩
set_option maxHeartbeats 4000000 in
set_option maxRecDepth 20000 in
theorem lc_3 {E : dkE} {l : Launch} {G : dkG} {L : Nat} {xs : Nat → Int32} (hGd : dk_Gd G) (hE : dk_Good E cL_law RL 20 dk_Ty l G 0 4 600000 7302250) (hX : dk_Scx E L xs) (i : Int) (hi : 0 ≤ i ∧ i + 6 ≤ (L : Int) ∧ (L : Int) ≤ 3072) (σ : dkS) (h : LX σ) (K : ∀ σ1 : dkS, LX σ1 → dk_PJ E 1624 [(4, (-40)), (4, 0), (4, 141), (0, i)] [] 190 σ1) : dk_PJ E 299 [(4, (-40)), (4, 0), (4, 141), (0, i)] [] 190 σ := by
  obtain ⟨h, hb0, hb1⟩ := h
  refine dk_aload_n (pc' := 300) hE dL_law_299 rfl rfl rfl ?_
  refine dk_aload_n (pc' := 301) hE dL_law_300 rfl rfl rfl ?_
  refine dk_iload_n (pc' := 302) hE dL_law_301 rfl rfl rfl ?_
  refine dk_iconst (pc' := 303) hE dL_law_302 (by decide) rfl ?_
  obtain ⟨v1, hv1⟩ : ∃ z : Int, z = i + 1 := ⟨_, rfl⟩
  refine dk_iadd (pc' := 304) hE dL_law_303 hv1.symm (by omega) rfl ?_
  refine dk_sldx (pc' := 305) hE hX dL_law_304 (by omega) rfl (fun v2 hiv2 hxv2 => ?_)
  refine dk_cL (pc' := 308) (as := [(0, v2)]) hE lk_L_28 (ct_X10_rules l G hGd v2 (σ 0 9)) dL_law_305 rfl is_0 rfl (by decide) (Nat.le_of_ble_eq_true rfl) ⟨rfl, h.1, h.2.1, rfl⟩ rfl (fun r4 σ3 hr4 _ => ?_)
  obtain ⟨v5, rfl, hfσ3, hpr4⟩ := hr4
  have hzσ30_12 := hfσ3 0 12 (by omega)
  have hzσ3141_52 := hfσ3 141 52 (by omega)
  have hzσ337_8 := hfσ3 37 8 (by omega)
  have hzσ3141_54 := hfσ3 141 54 (by omega)
  have L6 : LI σ3 := ⟨GI_fr h.1 (fun k j q => hfσ3 k j (by omega)), by rw [hfσ3 0 9 (by omega)]; exact h.2.1, MI_fr h.2.2 (fun k j q => hfσ3 k j (by omega))⟩
  refine dk_pop (pc' := 309) hE dL_law_308 (show (0 : Nat) ≠ 3 by decide) rfl ?_
  refine dk_aload_n (pc' := 310) hE dL_law_309 rfl rfl rfl ?_
  refine dk_aload_n (pc' := 311) hE dL_law_310 rfl rfl rfl ?_
  refine dk_iload_n (pc' := 312) hE dL_law_311 rfl rfl rfl ?_
  refine dk_iconst (pc' := 313) hE dL_law_312 (by decide) rfl ?_
  obtain ⟨v7, hv7⟩ : ∃ z : Int, z = i + 1 := ⟨_, rfl⟩
  refine dk_iadd (pc' := 314) hE dL_law_313 hv7.symm (by omega) rfl ?_
  refine dk_sldx (pc' := 315) hE hX dL_law_314 (by omega) rfl (fun v8 hiv8 hxv8 => ?_)
  have hqv8 : v8 = v2 := by rw [hxv8, hxv2, show v7 = v1 by omega]
  refine dk_cL (pc' := 318) (as := [(0, v8)]) hE lk_L_31 (ct_X11_rules l G hGd v8 (σ3 141 41)) dL_law_315 rfl is_141 rfl (by decide) (Nat.le_of_ble_eq_true rfl) ⟨rfl, L6.2.2, rfl⟩ rfl (fun r10 σ9 hr10 _ => ?_)
  obtain ⟨v11, rfl, hfσ9, hpr10⟩ := hr10
  have hzσ90_12 := hfσ9 0 12 (by omega)
  have hzσ9141_52 := hfσ9 141 52 (by omega)
  have hzσ937_8 := hfσ9 37 8 (by omega)
  have hzσ9141_54 := hfσ9 141 54 (by omega)
  have L12 : LI σ9 := ⟨GI_fr L6.1 (fun k j q => hfσ9 k j (by omega)), by rw [hfσ9 0 9 (by omega)]; exact L6.2.1, hpr10⟩
  refine dk_pop (pc' := 319) hE dL_law_318 (show (0 : Nat) ≠ 3 by decide) rfl ?_
  refine dk_goto (tgt := 1624) hE dL_law_319 (by decide) ?_
  exact K σ9 ⟨L12, by omega, by omega⟩
set_option maxHeartbeats 4000000 in
set_option maxRecDepth 20000 in
theorem lc_4 {E : dkE} {l : Launch} {G : dkG} {L : Nat} {xs : Nat → Int32} (hGd : dk_Gd G) (hE : dk_Good E cL_law RL 20 dk_Ty l G 0 4 600000 7302250) (hX : dk_Scx E L xs) (i : Int) (hi : 0 ≤ i ∧ i + 6 ≤ (L : Int) ∧ (L : Int) ≤ 3072) (σ : dkS) (h : LX σ) (K : ∀ σ1 : dkS, LX σ1 → dk_PJ E 1624 [(4, (-40)), (4, 0), (4, 141), (0, i)] [] 190 σ1) : dk_PJ E 322 [(4, (-40)), (4, 0), (4, 141), (0, i)] [] 190 σ := by
  obtain ⟨h, hb0, hb1⟩ := h
  refine dk_aload_n (pc' := 323) hE dL_law_322 rfl rfl rfl ?_
  refine dk_aload_n (pc' := 324) hE dL_law_323 rfl rfl rfl ?_
  refine dk_iload_n (pc' := 325) hE dL_law_324 rfl rfl rfl ?_
  refine dk_iconst (pc' := 326) hE dL_law_325 (by decide) rfl ?_
  obtain ⟨v1, hv1⟩ : ∃ z : Int, z = i + 1 := ⟨_, rfl⟩
  refine dk_iadd (pc' := 327) hE dL_law_326 hv1.symm (by omega) rfl ?_
  refine dk_sldx (pc' := 328) hE hX dL_law_327 (by omega) rfl (fun v2 hiv2 hxv2 => ?_)
  refine dk_cL (pc' := 331) (as := [(0, v2)]) hE lk_L_32 (ct_X10_fault l G hGd v2) dL_law_328 rfl is_0 rfl (by decide) (Nat.le_of_ble_eq_true rfl) rfl rfl (fun r4 σ3 hr4 _ => ?_)
  obtain ⟨v5, rfl, hfσ3, hpr4⟩ := hr4
  have hsσ3 : σ = σ3 := (funext (fun k => funext (fun j => hfσ3 k j not_false))).symm
  subst hsσ3
  refine dk_pop (pc' := 332) hE dL_law_331 (show (0 : Nat) ≠ 3 by decide) rfl ?_
  refine dk_aload_n (pc' := 333) hE dL_law_332 rfl rfl rfl ?_
  refine dk_aload_n (pc' := 334) hE dL_law_333 rfl rfl rfl ?_
  refine dk_iload_n (pc' := 335) hE dL_law_334 rfl rfl rfl ?_
  refine dk_iconst (pc' := 336) hE dL_law_335 (by decide) rfl ?_
  obtain ⟨v6, hv6⟩ : ∃ z : Int, z = i + 1 := ⟨_, rfl⟩
  refine dk_iadd (pc' := 337) hE dL_law_336 hv6.symm (by omega) rfl ?_
  refine dk_sldx (pc' := 338) hE hX dL_law_337 (by omega) rfl (fun v7 hiv7 hxv7 => ?_)
  have hqv7 : v7 = v2 := by rw [hxv7, hxv2, show v6 = v1 by omega]
  refine dk_cL (pc' := 341) (as := [(0, v7)]) hE lk_L_35 (ct_X11_fault l G hGd v7) dL_law_338 rfl is_141 rfl (by decide) (Nat.le_of_ble_eq_true rfl) rfl rfl (fun r9 σ8 hr9 _ => ?_)
  obtain ⟨v10, rfl, hfσ8, hpr9⟩ := hr9
  have hsσ8 : σ = σ8 := (funext (fun k => funext (fun j => hfσ8 k j not_false))).symm
  subst hsσ8
  refine dk_pop (pc' := 342) hE dL_law_341 (show (0 : Nat) ≠ 3 by decide) rfl ?_
  refine dk_goto (tgt := 1624) hE dL_law_342 (by decide) ?_
  exact K σ ⟨h, by omega, by omega⟩
set_option maxHeartbeats 4000000 in
set_option maxRecDepth 20000 in
theorem lc_5 {E : dkE} {l : Launch} {G : dkG} {L : Nat} {xs : Nat → Int32} (hGd : dk_Gd G) (hE : dk_Good E cL_law RL 20 dk_Ty l G 0 4 600000 7302250) (hX : dk_Scx E L xs) (i : Int) (hi : 0 ≤ i ∧ i + 6 ≤ (L : Int) ∧ (L : Int) ≤ 3072) (σ : dkS) (h : LX σ) (K : ∀ σ1 : dkS, LX σ1 → dk_PJ E 1624 [(4, (-40)), (4, 0), (4, 141), (0, i)] [] 190 σ1) : dk_PJ E 345 [(4, (-40)), (4, 0), (4, 141), (0, i)] [] 190 σ := by
  obtain ⟨h, hb0, hb1⟩ := h
  refine dk_aload_n (pc' := 346) hE dL_law_345 rfl rfl rfl ?_
  refine dk_aload_n (pc' := 347) hE dL_law_346 rfl rfl rfl ?_
  refine dk_iload_n (pc' := 348) hE dL_law_347 rfl rfl rfl ?_
  refine dk_iconst (pc' := 349) hE dL_law_348 (by decide) rfl ?_
  obtain ⟨v1, hv1⟩ : ∃ z : Int, z = i + 1 := ⟨_, rfl⟩
  refine dk_iadd (pc' := 350) hE dL_law_349 hv1.symm (by omega) rfl ?_
  refine dk_sldx (pc' := 351) hE hX dL_law_350 (by omega) rfl (fun v2 hiv2 hxv2 => ?_)
  refine dk_aload_n (pc' := 352) hE dL_law_351 rfl rfl rfl ?_
  refine dk_iload_n (pc' := 353) hE dL_law_352 rfl rfl rfl ?_
  refine dk_iconst (pc' := 354) hE dL_law_353 (by decide) rfl ?_
  obtain ⟨v3, hv3⟩ : ∃ z : Int, z = i + 2 := ⟨_, rfl⟩
  refine dk_iadd (pc' := 355) hE dL_law_354 hv3.symm (by omega) rfl ?_
  refine dk_sldx (pc' := 356) hE hX dL_law_355 (by omega) rfl (fun v4 hiv4 hxv4 => ?_)
  refine dk_cL (pc' := 359) (as := [(0, v2), (0, v4)]) hE lk_L_36 (ct_X10_part l G hGd v2 v4 (σ 0 9)) dL_law_356 rfl is_0 rfl (by decide) (Nat.le_of_ble_eq_true rfl) ⟨rfl, h.1, h.2.1, rfl⟩ rfl (fun r6 σ5 hr6 _ => ?_)
  obtain ⟨v7, rfl, hfσ5, hpr6⟩ := hr6
  have hsσ5 : σ = σ5 := (funext (fun k => funext (fun j => hfσ5 k j not_false))).symm
  subst hsσ5
  refine dk_pop (pc' := 360) hE dL_law_359 (show (0 : Nat) ≠ 3 by decide) rfl ?_
  refine dk_aload_n (pc' := 361) hE dL_law_360 rfl rfl rfl ?_
  refine dk_aload_n (pc' := 362) hE dL_law_361 rfl rfl rfl ?_
  refine dk_iload_n (pc' := 363) hE dL_law_362 rfl rfl rfl ?_
  refine dk_iconst (pc' := 364) hE dL_law_363 (by decide) rfl ?_
  obtain ⟨v8, hv8⟩ : ∃ z : Int, z = i + 1 := ⟨_, rfl⟩
  refine dk_iadd (pc' := 365) hE dL_law_364 hv8.symm (by omega) rfl ?_
  refine dk_sldx (pc' := 366) hE hX dL_law_365 (by omega) rfl (fun v9 hiv9 hxv9 => ?_)
  have hqv9 : v9 = v2 := by rw [hxv9, hxv2, show v8 = v1 by omega]
  refine dk_aload_n (pc' := 367) hE dL_law_366 rfl rfl rfl ?_
  refine dk_iload_n (pc' := 368) hE dL_law_367 rfl rfl rfl ?_
  refine dk_iconst (pc' := 369) hE dL_law_368 (by decide) rfl ?_
  obtain ⟨v10, hv10⟩ : ∃ z : Int, z = i + 2 := ⟨_, rfl⟩
  refine dk_iadd (pc' := 370) hE dL_law_369 hv10.symm (by omega) rfl ?_
  refine dk_sldx (pc' := 371) hE hX dL_law_370 (by omega) rfl (fun v11 hiv11 hxv11 => ?_)
  have hqv11 : v11 = v4 := by rw [hxv11, hxv4, show v10 = v3 by omega]
  refine dk_cL (pc' := 374) (as := [(0, v9), (0, v11)]) hE lk_L_40 (ct_X11_part l G hGd v9 v11) dL_law_371 rfl is_141 rfl (by decide) (Nat.le_of_ble_eq_true rfl) rfl rfl (fun r13 σ12 hr13 _ => ?_)
  obtain ⟨v14, rfl, hfσ12, hpr13⟩ := hr13
  have hsσ12 : σ = σ12 := (funext (fun k => funext (fun j => hfσ12 k j not_false))).symm
  subst hsσ12
  refine dk_pop (pc' := 375) hE dL_law_374 (show (0 : Nat) ≠ 3 by decide) rfl ?_
  refine dk_goto (tgt := 1624) hE dL_law_375 (by decide) ?_
  exact K σ ⟨h, by omega, by omega⟩
set_option maxHeartbeats 4000000 in
set_option maxRecDepth 20000 in
theorem lc_6 {E : dkE} {l : Launch} {G : dkG} {L : Nat} {xs : Nat → Int32} (hGd : dk_Gd G) (hE : dk_Good E cL_law RL 20 dk_Ty l G 0 4 600000 7302250) (hX : dk_Scx E L xs) (i : Int) (hi : 0 ≤ i ∧ i + 6 ≤ (L : Int) ∧ (L : Int) ≤ 3072) (σ : dkS) (h : LX σ) (K : ∀ σ1 : dkS, LX σ1 → dk_PJ E 1624 [(4, (-40)), (4, 0), (4, 141), (0, i)] [] 190 σ1) : dk_PJ E 378 [(4, (-40)), (4, 0), (4, 141), (0, i)] [] 190 σ := by
  obtain ⟨h, hb0, hb1⟩ := h
  refine dk_aload_n (pc' := 379) hE dL_law_378 rfl rfl rfl ?_
  refine dk_aload_n (pc' := 380) hE dL_law_379 rfl rfl rfl ?_
  refine dk_iload_n (pc' := 381) hE dL_law_380 rfl rfl rfl ?_
  refine dk_iconst (pc' := 382) hE dL_law_381 (by decide) rfl ?_
  obtain ⟨v1, hv1⟩ : ∃ z : Int, z = i + 1 := ⟨_, rfl⟩
  refine dk_iadd (pc' := 383) hE dL_law_382 hv1.symm (by omega) rfl ?_
  refine dk_sldx (pc' := 384) hE hX dL_law_383 (by omega) rfl (fun v2 hiv2 hxv2 => ?_)
  refine dk_aload_n (pc' := 385) hE dL_law_384 rfl rfl rfl ?_
  refine dk_iload_n (pc' := 386) hE dL_law_385 rfl rfl rfl ?_
  refine dk_iconst (pc' := 387) hE dL_law_386 (by decide) rfl ?_
  obtain ⟨v3, hv3⟩ : ∃ z : Int, z = i + 2 := ⟨_, rfl⟩
  refine dk_iadd (pc' := 388) hE dL_law_387 hv3.symm (by omega) rfl ?_
  refine dk_sldx (pc' := 389) hE hX dL_law_388 (by omega) rfl (fun v4 hiv4 hxv4 => ?_)
  refine dk_aload_n (pc' := 390) hE dL_law_389 rfl rfl rfl ?_
  refine dk_iload_n (pc' := 391) hE dL_law_390 rfl rfl rfl ?_
  refine dk_iconst (pc' := 392) hE dL_law_391 (by decide) rfl ?_
  obtain ⟨v5, hv5⟩ : ∃ z : Int, z = i + 3 := ⟨_, rfl⟩
  refine dk_iadd (pc' := 393) hE dL_law_392 hv5.symm (by omega) rfl ?_
  refine dk_sldx (pc' := 394) hE hX dL_law_393 (by omega) rfl (fun v6 hiv6 hxv6 => ?_)
  refine dk_cL (pc' := 397) (as := [(0, v2), (0, v4), (0, v6)]) hE lk_L_41 (ct_X10_reads l G hGd v2 v4 v6 (σ 0 9)) dL_law_394 rfl is_0 rfl (by decide) (Nat.le_of_ble_eq_true rfl) ⟨rfl, h.1, h.2.1, rfl⟩ rfl (fun r8 σ7 hr8 _ => ?_)
  obtain ⟨v9, rfl, hfσ7, hpr8⟩ := hr8
  have hzσ70_12 := hfσ7 0 12 (by omega)
  have hzσ7141_52 := hfσ7 141 52 (by omega)
  have hzσ737_8 := hfσ7 37 8 (by omega)
  have hzσ7141_54 := hfσ7 141 54 (by omega)
  have L10 : LI σ7 := ⟨GI_fr h.1 (fun k j q => hfσ7 k j (by omega)), by rw [hfσ7 0 9 (by omega)]; exact h.2.1, MI_fr h.2.2 (fun k j q => hfσ7 k j (by omega))⟩
  refine dk_pop (pc' := 398) hE dL_law_397 (show (0 : Nat) ≠ 3 by decide) rfl ?_
  refine dk_aload_n (pc' := 399) hE dL_law_398 rfl rfl rfl ?_
  refine dk_aload_n (pc' := 400) hE dL_law_399 rfl rfl rfl ?_
  refine dk_iload_n (pc' := 401) hE dL_law_400 rfl rfl rfl ?_
  refine dk_iconst (pc' := 402) hE dL_law_401 (by decide) rfl ?_
  obtain ⟨v11, hv11⟩ : ∃ z : Int, z = i + 1 := ⟨_, rfl⟩
  refine dk_iadd (pc' := 403) hE dL_law_402 hv11.symm (by omega) rfl ?_
  refine dk_sldx (pc' := 404) hE hX dL_law_403 (by omega) rfl (fun v12 hiv12 hxv12 => ?_)
  have hqv12 : v12 = v2 := by rw [hxv12, hxv2, show v11 = v1 by omega]
  refine dk_aload_n (pc' := 405) hE dL_law_404 rfl rfl rfl ?_
  refine dk_iload_n (pc' := 406) hE dL_law_405 rfl rfl rfl ?_
  refine dk_iconst (pc' := 407) hE dL_law_406 (by decide) rfl ?_
  obtain ⟨v13, hv13⟩ : ∃ z : Int, z = i + 2 := ⟨_, rfl⟩
  refine dk_iadd (pc' := 408) hE dL_law_407 hv13.symm (by omega) rfl ?_
  refine dk_sldx (pc' := 409) hE hX dL_law_408 (by omega) rfl (fun v14 hiv14 hxv14 => ?_)
  have hqv14 : v14 = v4 := by rw [hxv14, hxv4, show v13 = v3 by omega]
  refine dk_aload_n (pc' := 410) hE dL_law_409 rfl rfl rfl ?_
  refine dk_iload_n (pc' := 411) hE dL_law_410 rfl rfl rfl ?_
  refine dk_iconst (pc' := 412) hE dL_law_411 (by decide) rfl ?_
  obtain ⟨v15, hv15⟩ : ∃ z : Int, z = i + 3 := ⟨_, rfl⟩
  refine dk_iadd (pc' := 413) hE dL_law_412 hv15.symm (by omega) rfl ?_
  refine dk_sldx (pc' := 414) hE hX dL_law_413 (by omega) rfl (fun v16 hiv16 hxv16 => ?_)
  have hqv16 : v16 = v6 := by rw [hxv16, hxv6, show v15 = v5 by omega]
  refine dk_cL (pc' := 417) (as := [(0, v12), (0, v14), (0, v16)]) hE lk_L_45 (ct_X11_reads l G hGd v12 v14 v16) dL_law_414 rfl is_141 rfl (by decide) (Nat.le_of_ble_eq_true rfl) rfl rfl (fun r18 σ17 hr18 _ => ?_)
  obtain ⟨v19, rfl, hfσ17, hpr18⟩ := hr18
  have hzσ170_12 := hfσ17 0 12 (by omega)
  have hzσ17141_52 := hfσ17 141 52 (by omega)
  have hzσ1737_8 := hfσ17 37 8 (by omega)
  have hzσ17141_54 := hfσ17 141 54 (by omega)
  have L20 : LI σ17 := ⟨GI_fr L10.1 (fun k j q => hfσ17 k j (by omega)), by rw [hfσ17 0 9 (by omega)]; exact L10.2.1, MI_fr L10.2.2 (fun k j q => hfσ17 k j (by omega))⟩
  refine dk_pop (pc' := 418) hE dL_law_417 (show (0 : Nat) ≠ 3 by decide) rfl ?_
  refine dk_goto (tgt := 1624) hE dL_law_418 (by decide) ?_
  exact K σ17 ⟨L20, by omega, by omega⟩
set_option maxHeartbeats 4000000 in
set_option maxRecDepth 20000 in
theorem lc_7 {E : dkE} {l : Launch} {G : dkG} {L : Nat} {xs : Nat → Int32} (hGd : dk_Gd G) (hE : dk_Good E cL_law RL 20 dk_Ty l G 0 4 600000 7302250) (hX : dk_Scx E L xs) (i : Int) (hi : 0 ≤ i ∧ i + 6 ≤ (L : Int) ∧ (L : Int) ≤ 3072) (σ : dkS) (h : LX σ) (K : ∀ σ1 : dkS, LX σ1 → dk_PJ E 1624 [(4, (-40)), (4, 0), (4, 141), (0, i)] [] 190 σ1) : dk_PJ E 421 [(4, (-40)), (4, 0), (4, 141), (0, i)] [] 190 σ := by
  obtain ⟨h, hb0, hb1⟩ := h
  refine dk_aload_n (pc' := 422) hE dL_law_421 rfl rfl rfl ?_
  refine dk_aload_n (pc' := 423) hE dL_law_422 rfl rfl rfl ?_
  refine dk_iload_n (pc' := 424) hE dL_law_423 rfl rfl rfl ?_
  refine dk_iconst (pc' := 425) hE dL_law_424 (by decide) rfl ?_
  obtain ⟨v1, hv1⟩ : ∃ z : Int, z = i + 1 := ⟨_, rfl⟩
  refine dk_iadd (pc' := 426) hE dL_law_425 hv1.symm (by omega) rfl ?_
  refine dk_sldx (pc' := 427) hE hX dL_law_426 (by omega) rfl (fun v2 hiv2 hxv2 => ?_)
  refine dk_aload_n (pc' := 428) hE dL_law_427 rfl rfl rfl ?_
  refine dk_iload_n (pc' := 429) hE dL_law_428 rfl rfl rfl ?_
  refine dk_iconst (pc' := 430) hE dL_law_429 (by decide) rfl ?_
  obtain ⟨v3, hv3⟩ : ∃ z : Int, z = i + 2 := ⟨_, rfl⟩
  refine dk_iadd (pc' := 431) hE dL_law_430 hv3.symm (by omega) rfl ?_
  refine dk_sldx (pc' := 432) hE hX dL_law_431 (by omega) rfl (fun v4 hiv4 hxv4 => ?_)
  refine dk_aload_n (pc' := 433) hE dL_law_432 rfl rfl rfl ?_
  refine dk_iload_n (pc' := 434) hE dL_law_433 rfl rfl rfl ?_
  refine dk_iconst (pc' := 435) hE dL_law_434 (by decide) rfl ?_
  obtain ⟨v5, hv5⟩ : ∃ z : Int, z = i + 3 := ⟨_, rfl⟩
  refine dk_iadd (pc' := 436) hE dL_law_435 hv5.symm (by omega) rfl ?_
  refine dk_sldx (pc' := 437) hE hX dL_law_436 (by omega) rfl (fun v6 hiv6 hxv6 => ?_)
  refine dk_cL (pc' := 440) (as := [(0, v2), (0, v4), (0, v6)]) hE lk_L_46 (ct_X10_step l G hGd v2 v4 v6 (σ 0 9)) dL_law_437 rfl is_0 rfl (by decide) (Nat.le_of_ble_eq_true rfl) ⟨rfl, h.1, h.2.1, rfl⟩ rfl (fun r8 σ7 hr8 _ => ?_)
  obtain ⟨v9, rfl, hfσ7, hpr8⟩ := hr8
  have hsσ7 : σ = σ7 := (funext (fun k => funext (fun j => hfσ7 k j not_false))).symm
  subst hsσ7
  refine dk_pop (pc' := 441) hE dL_law_440 (show (0 : Nat) ≠ 3 by decide) rfl ?_
  refine dk_aload_n (pc' := 442) hE dL_law_441 rfl rfl rfl ?_
  refine dk_aload_n (pc' := 443) hE dL_law_442 rfl rfl rfl ?_
  refine dk_iload_n (pc' := 444) hE dL_law_443 rfl rfl rfl ?_
  refine dk_iconst (pc' := 445) hE dL_law_444 (by decide) rfl ?_
  obtain ⟨v10, hv10⟩ : ∃ z : Int, z = i + 1 := ⟨_, rfl⟩
  refine dk_iadd (pc' := 446) hE dL_law_445 hv10.symm (by omega) rfl ?_
  refine dk_sldx (pc' := 447) hE hX dL_law_446 (by omega) rfl (fun v11 hiv11 hxv11 => ?_)
  have hqv11 : v11 = v2 := by rw [hxv11, hxv2, show v10 = v1 by omega]
  refine dk_aload_n (pc' := 448) hE dL_law_447 rfl rfl rfl ?_
  refine dk_iload_n (pc' := 449) hE dL_law_448 rfl rfl rfl ?_
  refine dk_iconst (pc' := 450) hE dL_law_449 (by decide) rfl ?_
  obtain ⟨v12, hv12⟩ : ∃ z : Int, z = i + 2 := ⟨_, rfl⟩
  refine dk_iadd (pc' := 451) hE dL_law_450 hv12.symm (by omega) rfl ?_
  refine dk_sldx (pc' := 452) hE hX dL_law_451 (by omega) rfl (fun v13 hiv13 hxv13 => ?_)
  have hqv13 : v13 = v4 := by rw [hxv13, hxv4, show v12 = v3 by omega]
  refine dk_aload_n (pc' := 453) hE dL_law_452 rfl rfl rfl ?_
  refine dk_iload_n (pc' := 454) hE dL_law_453 rfl rfl rfl ?_
  refine dk_iconst (pc' := 455) hE dL_law_454 (by decide) rfl ?_
  obtain ⟨v14, hv14⟩ : ∃ z : Int, z = i + 3 := ⟨_, rfl⟩
  refine dk_iadd (pc' := 456) hE dL_law_455 hv14.symm (by omega) rfl ?_
  refine dk_sldx (pc' := 457) hE hX dL_law_456 (by omega) rfl (fun v15 hiv15 hxv15 => ?_)
  have hqv15 : v15 = v6 := by rw [hxv15, hxv6, show v14 = v5 by omega]
  refine dk_cL (pc' := 460) (as := [(0, v11), (0, v13), (0, v15)]) hE lk_L_50 (ct_X11_step l G hGd v11 v13 v15) dL_law_457 rfl is_141 rfl (by decide) (Nat.le_of_ble_eq_true rfl) rfl rfl (fun r17 σ16 hr17 _ => ?_)
  obtain ⟨v18, rfl, hfσ16, hpr17⟩ := hr17
  have hsσ16 : σ = σ16 := (funext (fun k => funext (fun j => hfσ16 k j not_false))).symm
  subst hsσ16
  refine dk_pop (pc' := 461) hE dL_law_460 (show (0 : Nat) ≠ 3 by decide) rfl ?_
  refine dk_goto (tgt := 1624) hE dL_law_461 (by decide) ?_
  exact K σ ⟨h, by omega, by omega⟩
set_option maxHeartbeats 4000000 in
set_option maxRecDepth 20000 in
theorem lc_8 {E : dkE} {l : Launch} {G : dkG} {L : Nat} {xs : Nat → Int32} (hGd : dk_Gd G) (hE : dk_Good E cL_law RL 20 dk_Ty l G 0 4 600000 7302250) (hX : dk_Scx E L xs) (i : Int) (hi : 0 ≤ i ∧ i + 6 ≤ (L : Int) ∧ (L : Int) ≤ 3072) (σ : dkS) (h : LX σ) (K : ∀ σ1 : dkS, LX σ1 → dk_PJ E 1624 [(4, (-40)), (4, 0), (4, 141), (0, i)] [] 190 σ1) : dk_PJ E 464 [(4, (-40)), (4, 0), (4, 141), (0, i)] [] 190 σ := by
  obtain ⟨h, hb0, hb1⟩ := h
  refine dk_aload_n (pc' := 465) hE dL_law_464 rfl rfl rfl ?_
  refine dk_aload_n (pc' := 466) hE dL_law_465 rfl rfl rfl ?_
  refine dk_iload_n (pc' := 467) hE dL_law_466 rfl rfl rfl ?_
  refine dk_iconst (pc' := 468) hE dL_law_467 (by decide) rfl ?_
  obtain ⟨v1, hv1⟩ : ∃ z : Int, z = i + 1 := ⟨_, rfl⟩
  refine dk_iadd (pc' := 469) hE dL_law_468 hv1.symm (by omega) rfl ?_
  refine dk_sldx (pc' := 470) hE hX dL_law_469 (by omega) rfl (fun v2 hiv2 hxv2 => ?_)
  refine dk_aload_n (pc' := 471) hE dL_law_470 rfl rfl rfl ?_
  refine dk_iload_n (pc' := 472) hE dL_law_471 rfl rfl rfl ?_
  refine dk_iconst (pc' := 473) hE dL_law_472 (by decide) rfl ?_
  obtain ⟨v3, hv3⟩ : ∃ z : Int, z = i + 2 := ⟨_, rfl⟩
  refine dk_iadd (pc' := 474) hE dL_law_473 hv3.symm (by omega) rfl ?_
  refine dk_sldx (pc' := 475) hE hX dL_law_474 (by omega) rfl (fun v4 hiv4 hxv4 => ?_)
  refine dk_aload_n (pc' := 476) hE dL_law_475 rfl rfl rfl ?_
  refine dk_iload_n (pc' := 477) hE dL_law_476 rfl rfl rfl ?_
  refine dk_iconst (pc' := 478) hE dL_law_477 (by decide) rfl ?_
  obtain ⟨v5, hv5⟩ : ∃ z : Int, z = i + 3 := ⟨_, rfl⟩
  refine dk_iadd (pc' := 479) hE dL_law_478 hv5.symm (by omega) rfl ?_
  refine dk_sldx (pc' := 480) hE hX dL_law_479 (by omega) rfl (fun v6 hiv6 hxv6 => ?_)
  refine dk_cL (pc' := 483) (as := [(0, v2), (0, v4), (0, v6)]) hE lk_L_51 (ct_X10_where l G hGd v2 v4 v6 (σ 0 9)) dL_law_480 rfl is_0 rfl (by decide) (Nat.le_of_ble_eq_true rfl) ⟨rfl, h.1, h.2.1, rfl⟩ rfl (fun r8 σ7 hr8 _ => ?_)
  obtain ⟨v9, rfl, hfσ7, hpr8⟩ := hr8
  have hsσ7 : σ = σ7 := (funext (fun k => funext (fun j => hfσ7 k j not_false))).symm
  subst hsσ7
  refine dk_pop (pc' := 484) hE dL_law_483 (show (0 : Nat) ≠ 3 by decide) rfl ?_
  refine dk_aload_n (pc' := 485) hE dL_law_484 rfl rfl rfl ?_
  refine dk_aload_n (pc' := 486) hE dL_law_485 rfl rfl rfl ?_
  refine dk_iload_n (pc' := 487) hE dL_law_486 rfl rfl rfl ?_
  refine dk_iconst (pc' := 488) hE dL_law_487 (by decide) rfl ?_
  obtain ⟨v10, hv10⟩ : ∃ z : Int, z = i + 1 := ⟨_, rfl⟩
  refine dk_iadd (pc' := 489) hE dL_law_488 hv10.symm (by omega) rfl ?_
  refine dk_sldx (pc' := 490) hE hX dL_law_489 (by omega) rfl (fun v11 hiv11 hxv11 => ?_)
  have hqv11 : v11 = v2 := by rw [hxv11, hxv2, show v10 = v1 by omega]
  refine dk_aload_n (pc' := 491) hE dL_law_490 rfl rfl rfl ?_
  refine dk_iload_n (pc' := 492) hE dL_law_491 rfl rfl rfl ?_
  refine dk_iconst (pc' := 493) hE dL_law_492 (by decide) rfl ?_
  obtain ⟨v12, hv12⟩ : ∃ z : Int, z = i + 2 := ⟨_, rfl⟩
  refine dk_iadd (pc' := 494) hE dL_law_493 hv12.symm (by omega) rfl ?_
  refine dk_sldx (pc' := 495) hE hX dL_law_494 (by omega) rfl (fun v13 hiv13 hxv13 => ?_)
  have hqv13 : v13 = v4 := by rw [hxv13, hxv4, show v12 = v3 by omega]
  refine dk_aload_n (pc' := 496) hE dL_law_495 rfl rfl rfl ?_
  refine dk_iload_n (pc' := 497) hE dL_law_496 rfl rfl rfl ?_
  refine dk_iconst (pc' := 498) hE dL_law_497 (by decide) rfl ?_
  obtain ⟨v14, hv14⟩ : ∃ z : Int, z = i + 3 := ⟨_, rfl⟩
  refine dk_iadd (pc' := 499) hE dL_law_498 hv14.symm (by omega) rfl ?_
  refine dk_sldx (pc' := 500) hE hX dL_law_499 (by omega) rfl (fun v15 hiv15 hxv15 => ?_)
  have hqv15 : v15 = v6 := by rw [hxv15, hxv6, show v14 = v5 by omega]
  refine dk_cL (pc' := 503) (as := [(0, v11), (0, v13), (0, v15)]) hE lk_L_54 (ct_X11_where l G hGd v11 v13 v15) dL_law_500 rfl is_141 rfl (by decide) (Nat.le_of_ble_eq_true rfl) rfl rfl (fun r17 σ16 hr17 _ => ?_)
  obtain ⟨v18, rfl, hfσ16, hpr17⟩ := hr17
  have hzσ160_12 := hfσ16 0 12 (by omega)
  have hzσ16141_52 := hfσ16 141 52 (by omega)
  have hzσ1637_8 := hfσ16 37 8 (by omega)
  have hzσ16141_54 := hfσ16 141 54 (by omega)
  have L19 : LI σ16 := ⟨GI_fr h.1 (fun k j q => hfσ16 k j (by omega)), by rw [hfσ16 0 9 (by omega)]; exact h.2.1, MI_fr h.2.2 (fun k j q => hfσ16 k j (by omega))⟩
  refine dk_pop (pc' := 504) hE dL_law_503 (show (0 : Nat) ≠ 3 by decide) rfl ?_
  refine dk_goto (tgt := 1624) hE dL_law_504 (by decide) ?_
  exact K σ16 ⟨L19, by omega, by omega⟩
set_option maxHeartbeats 4000000 in
set_option maxRecDepth 20000 in
theorem lc_9 {E : dkE} {l : Launch} {G : dkG} {L : Nat} {xs : Nat → Int32} (hGd : dk_Gd G) (hE : dk_Good E cL_law RL 20 dk_Ty l G 0 4 600000 7302250) (hX : dk_Scx E L xs) (i : Int) (hi : 0 ≤ i ∧ i + 6 ≤ (L : Int) ∧ (L : Int) ≤ 3072) (σ : dkS) (h : LX σ) (K : ∀ σ1 : dkS, LX σ1 → dk_PJ E 1624 [(4, (-40)), (4, 0), (4, 141), (0, i)] [] 190 σ1) : dk_PJ E 507 [(4, (-40)), (4, 0), (4, 141), (0, i)] [] 190 σ := by
  obtain ⟨h, hb0, hb1⟩ := h
  refine dk_aload_n (pc' := 508) hE dL_law_507 rfl rfl rfl ?_
  refine dk_aload_n (pc' := 509) hE dL_law_508 rfl rfl rfl ?_
  refine dk_iload_n (pc' := 510) hE dL_law_509 rfl rfl rfl ?_
  refine dk_iconst (pc' := 511) hE dL_law_510 (by decide) rfl ?_
  obtain ⟨v1, hv1⟩ : ∃ z : Int, z = i + 1 := ⟨_, rfl⟩
  refine dk_iadd (pc' := 512) hE dL_law_511 hv1.symm (by omega) rfl ?_
  refine dk_sldx (pc' := 513) hE hX dL_law_512 (by omega) rfl (fun v2 hiv2 hxv2 => ?_)
  refine dk_aload_n (pc' := 514) hE dL_law_513 rfl rfl rfl ?_
  refine dk_iload_n (pc' := 515) hE dL_law_514 rfl rfl rfl ?_
  refine dk_iconst (pc' := 516) hE dL_law_515 (by decide) rfl ?_
  obtain ⟨v3, hv3⟩ : ∃ z : Int, z = i + 2 := ⟨_, rfl⟩
  refine dk_iadd (pc' := 517) hE dL_law_516 hv3.symm (by omega) rfl ?_
  refine dk_sldx (pc' := 518) hE hX dL_law_517 (by omega) rfl (fun v4 hiv4 hxv4 => ?_)
  refine dk_cL (pc' := 521) (as := [(0, v2), (0, v4)]) hE lk_L_55 (ct_X10_meet l G hGd v2 v4 (σ 0 9)) dL_law_518 rfl is_0 rfl (by decide) (Nat.le_of_ble_eq_true rfl) ⟨rfl, h.1, h.2.1, rfl⟩ rfl (fun r6 σ5 hr6 _ => ?_)
  obtain ⟨v7, rfl, hfσ5, hpr6⟩ := hr6
  have hzσ50_12 := hfσ5 0 12 (by omega)
  have hzσ5141_52 := hfσ5 141 52 (by omega)
  have hzσ537_8 := hfσ5 37 8 (by omega)
  have hzσ5141_54 := hfσ5 141 54 (by omega)
  have L8 : LI σ5 := ⟨GI_fr h.1 (fun k j q => hfσ5 k j (by omega)), by rw [hfσ5 0 9 (by omega)]; exact h.2.1, MI_fr h.2.2 (fun k j q => hfσ5 k j (by omega))⟩
  refine dk_pop (pc' := 522) hE dL_law_521 (show (0 : Nat) ≠ 3 by decide) rfl ?_
  refine dk_aload_n (pc' := 523) hE dL_law_522 rfl rfl rfl ?_
  refine dk_aload_n (pc' := 524) hE dL_law_523 rfl rfl rfl ?_
  refine dk_iload_n (pc' := 525) hE dL_law_524 rfl rfl rfl ?_
  refine dk_iconst (pc' := 526) hE dL_law_525 (by decide) rfl ?_
  obtain ⟨v9, hv9⟩ : ∃ z : Int, z = i + 1 := ⟨_, rfl⟩
  refine dk_iadd (pc' := 527) hE dL_law_526 hv9.symm (by omega) rfl ?_
  refine dk_sldx (pc' := 528) hE hX dL_law_527 (by omega) rfl (fun v10 hiv10 hxv10 => ?_)
  have hqv10 : v10 = v2 := by rw [hxv10, hxv2, show v9 = v1 by omega]
  refine dk_aload_n (pc' := 529) hE dL_law_528 rfl rfl rfl ?_
  refine dk_iload_n (pc' := 530) hE dL_law_529 rfl rfl rfl ?_
  refine dk_iconst (pc' := 531) hE dL_law_530 (by decide) rfl ?_
  obtain ⟨v11, hv11⟩ : ∃ z : Int, z = i + 2 := ⟨_, rfl⟩
  refine dk_iadd (pc' := 532) hE dL_law_531 hv11.symm (by omega) rfl ?_
  refine dk_sldx (pc' := 533) hE hX dL_law_532 (by omega) rfl (fun v12 hiv12 hxv12 => ?_)
  have hqv12 : v12 = v4 := by rw [hxv12, hxv4, show v11 = v3 by omega]
  refine dk_cL (pc' := 536) (as := [(0, v10), (0, v12)]) hE lk_L_58 (ct_X11_meet l G hGd v10 v12) dL_law_533 rfl is_141 rfl (by decide) (Nat.le_of_ble_eq_true rfl) rfl rfl (fun r14 σ13 hr14 _ => ?_)
  obtain ⟨v15, rfl, hfσ13, hpr14⟩ := hr14
  have hzσ130_12 := hfσ13 0 12 (by omega)
  have hzσ13141_52 := hfσ13 141 52 (by omega)
  have hzσ1337_8 := hfσ13 37 8 (by omega)
  have hzσ13141_54 := hfσ13 141 54 (by omega)
  have L16 : LI σ13 := ⟨GI_fr L8.1 (fun k j q => hfσ13 k j (by omega)), by rw [hfσ13 0 9 (by omega)]; exact L8.2.1, MI_fr L8.2.2 (fun k j q => hfσ13 k j (by omega))⟩
  refine dk_pop (pc' := 537) hE dL_law_536 (show (0 : Nat) ≠ 3 by decide) rfl ?_
  refine dk_goto (tgt := 1624) hE dL_law_537 (by decide) ?_
  exact K σ13 ⟨L16, by omega, by omega⟩
