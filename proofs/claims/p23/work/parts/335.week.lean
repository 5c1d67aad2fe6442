def HN (σ : dkS) (n H : Int) : Prop := H = σ 187 n
theorem fpj335_70 {k j : Int} (h : k = 141 ∧ j = 70) : ¬ mFP k j := by obtain ⟨rfl, rfl⟩ := h; omega
theorem fpn335_176 {k j : Int} (h : k = 176) : ¬ mFP k j := by subst h; omega
theorem fpn335_180 {k j : Int} (h : k = 180) : ¬ mFP k j := by subst h; omega
theorem fpn335_186 {k j : Int} (h : k = 186) : ¬ mFP k j := by subst h; omega
theorem fpw335_3283619441 : ∀ k_ j_ : Int, mFP k_ j_ → ¬ ((181 ≤ k_ ∧ k_ ≤ 183)) := by intro k_ j_ h; omega
theorem fpw335_2611390297 : ∀ k_ j_ : Int, mFP k_ j_ → ¬ ((182 ≤ k_ ∧ k_ ≤ 183)) := by intro k_ j_ h; omega
theorem fpw335_2804642510 : ∀ k_ j_ : Int, mFP k_ j_ → ¬ ((k_ = 141 ∧ j_ = 55) ∨ (k_ = 141 ∧ j_ = 56) ∨ (k_ = 141 ∧ j_ = 57) ∨ (k_ = 141 ∧ j_ = 58) ∨ (k_ = 141 ∧ j_ = 59) ∨ (k_ = 141 ∧ j_ = 60) ∨ (k_ = 141 ∧ j_ = 61)) := by intro k_ j_ h; omega
theorem fpw335_238380992 : ∀ k_ j_ : Int, mFP k_ j_ → ¬ ((k_ = 141 ∧ j_ = 55) ∨ (k_ = 141 ∧ j_ = 56) ∨ (k_ = 141 ∧ j_ = 57) ∨ (k_ = 141 ∧ j_ = 58) ∨ (k_ = 141 ∧ j_ = 59) ∨ (k_ = 141 ∧ j_ = 60) ∨ (k_ = 141 ∧ j_ = 61) ∨ k_ = 168) := by intro k_ j_ h; omega
theorem fpw335_999371632 : ∀ k_ j_ : Int, mFP k_ j_ → ¬ ((k_ = 141 ∧ j_ = 55) ∨ (k_ = 141 ∧ j_ = 56) ∨ (k_ = 141 ∧ j_ = 57) ∨ (k_ = 141 ∧ j_ = 58) ∨ (k_ = 141 ∧ j_ = 59) ∨ (k_ = 141 ∧ j_ = 60) ∨ (k_ = 141 ∧ j_ = 61) ∨ k_ = 168 ∨ (176 ≤ k_ ∧ k_ ≤ 177)) := by intro k_ j_ h; omega
theorem fpw335_549955260 : ∀ k_ j_ : Int, mFP k_ j_ → ¬ ((k_ = 141 ∧ j_ = 55) ∨ (k_ = 141 ∧ j_ = 56) ∨ (k_ = 141 ∧ j_ = 57) ∨ (k_ = 141 ∧ j_ = 58) ∨ (k_ = 141 ∧ j_ = 59) ∨ (k_ = 141 ∧ j_ = 60) ∨ (k_ = 141 ∧ j_ = 61) ∨ k_ = 168 ∨ (k_ = 141 ∧ j_ = 70) ∨ (176 ≤ k_ ∧ k_ ≤ 177) ∨ k_ = 180) := by intro k_ j_ h; omega
theorem fpw335_4146192386 : ∀ k_ j_ : Int, mFP k_ j_ → ¬ ((k_ = 141 ∧ j_ = 55) ∨ (k_ = 141 ∧ j_ = 56) ∨ (k_ = 141 ∧ j_ = 57) ∨ (k_ = 141 ∧ j_ = 58) ∨ (k_ = 141 ∧ j_ = 59) ∨ (k_ = 141 ∧ j_ = 60) ∨ (k_ = 141 ∧ j_ = 61) ∨ k_ = 168 ∨ (k_ = 141 ∧ j_ = 70) ∨ (176 ≤ k_ ∧ k_ ≤ 177) ∨ k_ = 180 ∨ (k_ = 141 ∧ j_ = 71) ∨ (k_ = 141 ∧ j_ = 72) ∨ (181 ≤ k_ ∧ k_ ≤ 183) ∨ k_ = 178 ∨ k_ = 186) := by intro k_ j_ h; omega
set_option maxHeartbeats 4000000 in
set_option maxRecDepth 20000 in
theorem ct_X11_fits (l : Launch) (G : dkG) (hGd : dk_Gd G) (a R : Int) : dk_Ct l G dk_Ty yX11_fits cX11_fits 3 (some .boolean) 1 190 190 (fun av σ => av = [(4, 141), (0, a)] ∧ (0 ≤ a ∧ a ≤ 9) ∧ (R = σ 141 79) ∧ (0 ≤ R ∧ R ≤ 9)) (fun _ σ r_ σ' => ∃ z : Int, r_ = some (0, z) ∧ (∀ k_ j_ : Int, ¬ ((187 ≤ k_ ∧ k_ ≤ 189)) → σ' k_ j_ = σ k_ j_) ∧ (0 ≤ z ∧ z ≤ 1 ∧ (R ≤ a → z = 1))) := by
  refine dk_enter hGd (by decide) (fun av σ hpre hok => ?_)
  obtain ⟨rfl, ha, hRr, hR9⟩ := hpre
  refine ⟨Nat.le_of_ble_eq_true rfl, fun E hE hR _ => ?_⟩
  have hi_a : dk_i32 a := dk_oki (hok _ (by simp))
  show dk_PJ E 0 [(4, 141), (0, a), (9, 0)] [] 190 σ
  refine dk_iconst (pc' := 1) hE dX11_fits_0 (by decide) rfl ?_
  refine dk_istore_n (pc' := 2) (ls' := [(4, 141), (0, a), (0, 0)]) hE dX11_fits_1 rfl rfl (by decide) rfl ?_
  have lp2 : ∀ (N_ : Nat) (i : Int) (σ2c : dkS), (2147483648 - i).toNat < N_ → ((∀ k_ j_ : Int, ¬ ((188 ≤ k_ ∧ k_ ≤ 189)) → σ2c k_ j_ = σ k_ j_)) → (0 ≤ i) → (∀ q_ : Int, 0 ≤ q_ → q_ < i → σ2c 188 q_ = 0 ∧ σ2c 189 q_ = 0) → dk_PJ E 2 [(4, 141), (0, a), (0, i)] [] 190 σ2c := by
    intro N2
    induction N2 with
    | zero => intro i σ2c hm; exact absurd hm (Nat.not_lt_zero _)
    | succ N2 ih2 =>
      intro i σ2c hm2 hF2 hi hz
      refine dk_iload_n (pc' := 3) hE dX11_fits_2 rfl rfl rfl ?_
      refine dk_bipush (pc' := 5) hE dX11_fits_3 (by decide) rfl ?_
      refine dk_icmp_ge (tgt := 28) (pc' := 8) hE dX11_fits_5 (by decide) rfl (fun hc1 => ?_) (fun hc1 => ?_)
      · skip
        refine dk_iconst (pc' := 29) hE dX11_fits_28 (by decide) rfl ?_
        refine dk_istore_n (pc' := 30) (ls' := [(4, 141), (0, a), (0, 0)]) hE dX11_fits_29 rfl rfl (by decide) rfl ?_
        refine dk_aload_n (pc' := 31) hE dX11_fits_30 rfl rfl rfl ?_
        refine gf_11_79 (pc' := 34) hE fl_X11_278 dX11_fits_31 is_141 rfl (fun v2 hv2 htv2 hbv2 => ?_)
        have hq2 : R = v2 := (show v2 = R by rw [hv2, hF2 141 79 (by omega), hRr]).symm
        subst hq2
        clear htv2 hbv2
        refine dk_if_le (tgt := 44) (pc' := 37) hE dX11_fits_34 (by decide) rfl (fun hc3 => ?_) (fun hc3 => ?_)
        · skip
          have lp44 : ∀ (N_ : Nat) (n H : Int) (σ44c : dkS), (2357947691 - wV R n σ44c).toNat < N_ → ((∀ k_ j_ : Int, ¬ ((187 ≤ k_ ∧ k_ ≤ 189)) → σ44c k_ j_ = σ2c k_ j_)) → (HN σ44c n H) → (FT a R n σ44c) → (TR a R n σ44c) → dk_PJ E 44 [(4, 141), (0, a), (0, n)] [] 190 σ44c := by
            intro N44
            induction N44 with
            | zero => intro n H σ44c hm; exact absurd hm (Nat.not_lt_zero _)
            | succ N44 ih44 =>
              intro n H σ44c hm44 hF44 hH_ hFT hTR
              have hH : H = σ44c 187 n := hH_
              have hf1 := hFT.1
              have hf2 := hFT.2.1
              have hf3 := hFT.2.2.2
              have hf4 := FT_b hFT (by omega)
              rw [← hH] at hf3
              refine dk_iload_n (pc' := 45) hE dX11_fits_44 rfl rfl rfl ?_
              refine dk_if_lt (tgt := 244) (pc' := 48) hE dX11_fits_45 (by decide) rfl (fun hc4 => ?_) (fun hc4 => ?_)
              · skip
                refine dk_iload_n (pc' := 245) hE dX11_fits_244 rfl rfl rfl ?_
                refine dk_if_lt (tgt := 252) (pc' := 248) hE dX11_fits_245 (by decide) rfl (fun hc5 => ?_) (fun hc5 => ?_)
                · skip
                  refine dk_iconst (pc' := 253) hE dX11_fits_252 (by decide) rfl ?_
                  exact dk_zret (st := []) hE hR dX11_fits_253 (by omega) ⟨_, rfl, (fun k_ j_ h_ => by rw [hF44 k_ j_ (fun w_ => h_ (w_)), hF2 k_ j_ (fun w_ => h_ (dk_wrr (lo := 187) (hi := 189) w_ (by decide) (by decide)))]), ⟨by omega, by omega, fun e_ => by have t_ := hTR e_; omega⟩⟩
                · skip
                  refine dk_iconst (pc' := 249) hE dX11_fits_248 (by decide) rfl ?_
                  refine dk_goto (tgt := 253) hE dX11_fits_249 (by decide) ?_
                  exact dk_zret (st := []) hE hR dX11_fits_253 (by omega) ⟨_, rfl, (fun k_ j_ h_ => by rw [hF44 k_ j_ (fun w_ => h_ (w_)), hF2 k_ j_ (fun w_ => h_ (dk_wrr (lo := 187) (hi := 189) w_ (by decide) (by decide)))]), ⟨by omega, by omega, fun e_ => by have t_ := hTR e_; omega⟩⟩
              · skip
                refine dk_iload_n (pc' := 49) hE dX11_fits_48 rfl rfl rfl ?_
                refine dk_aload_n (pc' := 50) hE dX11_fits_49 rfl rfl rfl ?_
                refine gf_11_79 (pc' := 53) hE fl_X11_278 dX11_fits_50 is_141 rfl (fun v6 hv6 htv6 hbv6 => ?_)
                have hq6 : R = v6 := (show v6 = R by rw [hv6, hF44 141 79 (by omega), hv2]).symm
                subst hq6
                clear htv6 hbv6
                refine dk_icmp_ge (tgt := 244) (pc' := 56) hE dX11_fits_53 (by decide) rfl (fun hc7 => ?_) (fun hc7 => ?_)
                · skip
                  refine dk_iload_n (pc' := 245) hE dX11_fits_244 rfl rfl rfl ?_
                  refine dk_if_lt (tgt := 252) (pc' := 248) hE dX11_fits_245 (by decide) rfl (fun hc8 => ?_) (fun hc8 => ?_)
                  · skip
                    refine dk_iconst (pc' := 253) hE dX11_fits_252 (by decide) rfl ?_
                    exact dk_zret (st := []) hE hR dX11_fits_253 (by omega) ⟨_, rfl, (fun k_ j_ h_ => by rw [hF44 k_ j_ (fun w_ => h_ (w_)), hF2 k_ j_ (fun w_ => h_ (dk_wrr (lo := 187) (hi := 189) w_ (by decide) (by decide)))]), ⟨by omega, by omega, fun e_ => by have t_ := hTR e_; omega⟩⟩
                  · skip
                    refine dk_iconst (pc' := 249) hE dX11_fits_248 (by decide) rfl ?_
                    refine dk_goto (tgt := 253) hE dX11_fits_249 (by decide) ?_
                    exact dk_zret (st := []) hE hR dX11_fits_253 (by omega) ⟨_, rfl, (fun k_ j_ h_ => by rw [hF44 k_ j_ (fun w_ => h_ (w_)), hF2 k_ j_ (fun w_ => h_ (dk_wrr (lo := 187) (hi := 189) w_ (by decide) (by decide)))]), ⟨by omega, by omega, fun e_ => by have t_ := hTR e_; omega⟩⟩
                · skip
                  refine dk_aload_n (pc' := 57) hE dX11_fits_56 rfl rfl rfl ?_
                  refine gf_11_76 (pc' := 60) (w := 187) hE fl_X11_152 dX11_fits_57 is_141 rfl rfl ?_
                  refine dk_iload_n (pc' := 61) hE dX11_fits_60 rfl rfl rfl ?_
                  refine ga_115 (pc' := 62) hE dX11_fits_61 is_187 (by omega) rfl (fun v9 hv9 htv9 hbv9 => ?_)
                  have hq9 : H = v9 := (show v9 = H by rw [hv9, hH]).symm
                  subst hq9
                  clear htv9 hbv9
                  refine dk_if_lt (tgt := 100) (pc' := 65) hE dX11_fits_62 (by decide) rfl (fun hc10 => ?_) (fun hc10 => ?_)
                  · skip
                    refine dk_aload_n (pc' := 101) hE dX11_fits_100 rfl rfl rfl ?_
                    refine gf_11_76 (pc' := 104) (w := 187) hE fl_X11_152 dX11_fits_101 is_141 rfl rfl ?_
                    refine dk_iload_n (pc' := 105) hE dX11_fits_104 rfl rfl rfl ?_
                    refine dk_dup2 (pc' := 106) hE dX11_fits_105 (show (0 : Nat) ≠ 3 by decide) (show (4 : Nat) ≠ 3 by decide) rfl ?_
                    refine ga_115 (pc' := 107) hE dX11_fits_106 is_187 (by omega) rfl (fun v11 hv11 htv11 hbv11 => ?_)
                    have hq11 : H = v11 := (show v11 = H by rw [hv11, hv9]).symm
                    subst hq11
                    clear htv11 hbv11
                    refine dk_iconst (pc' := 108) hE dX11_fits_107 (by decide) rfl ?_
                    obtain ⟨v12, hv12⟩ : ∃ z : Int, z = H + 1 := ⟨_, rfl⟩
                    refine dk_iadd (pc' := 109) hE dX11_fits_108 hv12.symm (by omega) rfl ?_
                    refine pa_115 (pc' := 110) hE dX11_fits_109 is_187 (by omega) (by omega) rfl (fun σ13 eσ13 => ?_)
                    have lp110 : ∀ (N_ : Nat) (h : Int) (σ110c : dkS), (a - h).toNat < N_ → ((∀ k_ j_ : Int, ¬ ((k_ = 187 ∧ j_ = n)) → σ110c k_ j_ = σ13 k_ j_)) → (h = σ110c 187 n) → (H + 1 ≤ h ∧ h ≤ a ∧ 0 ≤ h) → (R ≤ a → h ≤ n) → dk_PJ E 110 [(4, 141), (0, a), (0, n)] [] 190 σ110c := by
                      intro N110
                      induction N110 with
                      | zero => intro h σ110c hm; exact absurd hm (Nat.not_lt_zero _)
                      | succ N110 ih110 =>
                        intro h σ110c hm110 hF110 hh hr ht
                        refine dk_aload_n (pc' := 111) hE dX11_fits_110 rfl rfl rfl ?_
                        refine gf_11_76 (pc' := 114) (w := 187) hE fl_X11_152 dX11_fits_111 is_141 rfl rfl ?_
                        refine dk_iload_n (pc' := 115) hE dX11_fits_114 rfl rfl rfl ?_
                        refine ga_115 (pc' := 116) hE dX11_fits_115 is_187 (by omega) rfl (fun v14 hv14 htv14 hbv14 => ?_)
                        have hq14 : h = v14 := (show v14 = h by rw [hv14, hh]).symm
                        subst hq14
                        clear htv14 hbv14
                        refine dk_iload_n (pc' := 117) hE dX11_fits_116 rfl rfl rfl ?_
                        refine dk_icmp_ge (tgt := 172) (pc' := 120) hE dX11_fits_117 (by decide) rfl (fun hc15 => ?_) (fun hc15 => ?_)
                        · skip
                          refine dk_aload_n (pc' := 173) hE dX11_fits_172 rfl rfl rfl ?_
                          refine gf_11_76 (pc' := 176) (w := 187) hE fl_X11_152 dX11_fits_173 is_141 rfl rfl ?_
                          refine dk_iload_n (pc' := 177) hE dX11_fits_176 rfl rfl rfl ?_
                          refine ga_115 (pc' := 178) hE dX11_fits_177 is_187 (by omega) rfl (fun v16 hv16 htv16 hbv16 => ?_)
                          have hq16 : h = v16 := (show v16 = h by rw [hv16, hv14]).symm
                          subst hq16
                          clear htv16 hbv16
                          refine dk_iload_n (pc' := 179) hE dX11_fits_178 rfl rfl rfl ?_
                          refine dk_icmp_ne (tgt := 188) (pc' := 182) hE dX11_fits_179 (by decide) rfl (fun hc17 => ?_) (fun hc17 => ?_)
                          · skip
                            refine dk_aload_n (pc' := 189) hE dX11_fits_188 rfl rfl rfl ?_
                            refine gf_11_77 (pc' := 192) (w := 188) hE fl_X11_155 dX11_fits_189 is_141 rfl rfl ?_
                            refine dk_aload_n (pc' := 193) hE dX11_fits_192 rfl rfl rfl ?_
                            refine gf_11_76 (pc' := 196) (w := 187) hE fl_X11_152 dX11_fits_193 is_141 rfl rfl ?_
                            refine dk_iload_n (pc' := 197) hE dX11_fits_196 rfl rfl rfl ?_
                            refine ga_115 (pc' := 198) hE dX11_fits_197 is_187 (by omega) rfl (fun v18 hv18 htv18 hbv18 => ?_)
                            have hq18 : h = v18 := (show v18 = h by rw [hv18, hv16]).symm
                            subst hq18
                            clear htv18 hbv18
                            refine dk_dup2 (pc' := 199) hE dX11_fits_198 (show (0 : Nat) ≠ 3 by decide) (show (4 : Nat) ≠ 3 by decide) rfl ?_
                            refine ga_116 (pc' := 200) hE dX11_fits_199 is_188 (by omega) rfl (fun v19 hv19 htv19 hbv19 => ?_)
                            refine dk_iconst (pc' := 201) hE dX11_fits_200 (by decide) rfl ?_
                            refine dk_iaddW (pc' := 202) hE dX11_fits_201 rfl (fun v20 hv20 _ => ?_)
                            refine pa_116 (pc' := 203) hE dX11_fits_202 is_188 (by omega) trivial rfl (fun σ21 eσ21 => ?_)
                            refine dk_aload_n (pc' := 204) hE dX11_fits_203 rfl rfl rfl ?_
                            refine gf_11_78 (pc' := 207) (w := 189) hE fl_X11_158 dX11_fits_204 is_141 rfl rfl ?_
                            refine dk_aload_n (pc' := 208) hE dX11_fits_207 rfl rfl rfl ?_
                            refine gf_11_76 (pc' := 211) (w := 187) hE fl_X11_152 dX11_fits_208 is_141 rfl rfl ?_
                            refine dk_iload_n (pc' := 212) hE dX11_fits_211 rfl rfl rfl ?_
                            refine ga_115 (pc' := 213) hE dX11_fits_212 is_187 (by omega) rfl (fun v22 hv22 htv22 hbv22 => ?_)
                            have hq22 : h = v22 := (show v22 = h by rw [hv22, eσ21, dk_up_n (show ¬ (187 = 188 ∧ n = h) by omega), hv18]).symm
                            subst hq22
                            clear htv22 hbv22
                            refine dk_dup2 (pc' := 214) hE dX11_fits_213 (show (0 : Nat) ≠ 3 by decide) (show (4 : Nat) ≠ 3 by decide) rfl ?_
                            refine ga_117 (pc' := 215) hE dX11_fits_214 is_189 (by omega) rfl (fun v23 hv23 htv23 hbv23 => ?_)
                            refine dk_aload_n (pc' := 216) hE dX11_fits_215 rfl rfl rfl ?_
                            refine gf_11_75 (pc' := 219) (w := 186) hE fl_X11_149 dX11_fits_216 is_141 rfl rfl ?_
                            refine dk_iload_n (pc' := 220) hE dX11_fits_219 rfl rfl rfl ?_
                            refine ga_114 (pc' := 221) hE dX11_fits_220 is_186 (by omega) rfl (fun v24 hv24 htv24 hbv24 => ?_)
                            refine dk_iaddW (pc' := 222) hE dX11_fits_221 rfl (fun v25 hv25 _ => ?_)
                            refine pa_117 (pc' := 223) hE dX11_fits_222 is_189 (by omega) trivial rfl (fun σ26 eσ26 => ?_)
                            obtain ⟨v27, hv27⟩ : ∃ z : Int, z = n + 1 := ⟨_, rfl⟩
                            refine dk_iinc (pc' := 226) (ls' := [(4, 141), (0, a), (0, v27)]) hE dX11_fits_223 rfl hv27.symm (by omega) rfl (by decide) rfl ?_
                            refine dk_iload_n (pc' := 227) hE dX11_fits_226 rfl rfl rfl ?_
                            refine dk_aload_n (pc' := 228) hE dX11_fits_227 rfl rfl rfl ?_
                            refine gf_11_79 (pc' := 231) hE fl_X11_278 dX11_fits_228 is_141 rfl (fun v28 hv28 htv28 hbv28 => ?_)
                            have hq28 : R = v28 := (show v28 = R by rw [hv28, eσ26, dk_up_n (show ¬ (141 = 189 ∧ 79 = h) by omega), eσ21, dk_up_n (show ¬ (141 = 188 ∧ 79 = h) by omega), hF110 141 79 (by omega), eσ13, dk_up_n (show ¬ (141 = 187 ∧ 79 = n) by omega), hv6]).symm
                            subst hq28
                            clear htv28 hbv28
                            refine dk_icmp_ge (tgt := 44) (pc' := 234) hE dX11_fits_231 (by decide) rfl (fun hc29 => ?_) (fun hc29 => ?_)
                            · skip
                              exact ih44 v27 (σ26 187 v27) σ26 (by first | (have h_ := (FT_fwd (h := h) (σ' := σ26) hFT (by omega) (by omega) (by omega) (fun j_ a_ b_ => by rw [eσ26, dk_up_n (show ¬ (187 = 189 ∧ j_ = h) by omega), eσ21, dk_up_n (show ¬ (187 = 188 ∧ j_ = h) by omega), hF110 187 j_ (by omega), eσ13, dk_up_n (show ¬ (187 = 187 ∧ j_ = n) by omega)]) (by rw [eσ26, dk_up_n (show ¬ (187 = 189 ∧ n = h) by omega), eσ21, dk_up_n (show ¬ (187 = 188 ∧ n = h) by omega)]; exact hh.symm) (fun x_ => by first | (rw [show n + 1 = v27 by omega, eσ26, dk_up_s]) | (exfalso; omega))).2; rw [show v27 = n + 1 by omega]; omega) | (have h_ := (FT_back (σ' := σ26) hFT (by omega) (by omega) (by omega) (fun j_ a_ b_ => by rw [eσ26, dk_up_n (show ¬ (187 = 189 ∧ j_ = h) by omega), eσ21, dk_up_n (show ¬ (187 = 188 ∧ j_ = h) by omega), hF110 187 j_ (by omega), eσ13, dk_up_n (show ¬ (187 = 187 ∧ j_ = n) by omega)])).2; rw [show v27 = n - 1 by omega]; omega)) (fun k_ j_ h_ => by rw [eσ26, dk_up_n (show ¬ (k_ = 189 ∧ j_ = h) from fun q_ => h_ (dk_wr (lo := 187) (hi := 189) q_.1 (by decide))), eσ21, dk_up_n (show ¬ (k_ = 188 ∧ j_ = h) from fun q_ => h_ (dk_wr (lo := 187) (hi := 189) q_.1 (by decide))), hF110 k_ j_ (fun w_ => h_ (dk_wr (lo := 187) (hi := 189) w_.1 (by decide))), eσ13, dk_up_n (show ¬ (k_ = 187 ∧ j_ = n) from fun q_ => h_ (dk_wr (lo := 187) (hi := 189) q_.1 (by decide))), hF44 k_ j_ (fun w_ => h_ (w_))]) (rfl) (by first | exact ⟨by omega, by omega, fun i_ x_ y_ => by omega, fun x_ y_ => by first | (rw [eσ26, dk_up_s]; omega) | (exfalso; omega)⟩ | exact (show v27 = n + 1 by omega) ▸ (FT_fwd (h := h) (σ' := σ26) hFT (by omega) (by omega) (by omega) (fun j_ a_ b_ => by rw [eσ26, dk_up_n (show ¬ (187 = 189 ∧ j_ = h) by omega), eσ21, dk_up_n (show ¬ (187 = 188 ∧ j_ = h) by omega), hF110 187 j_ (by omega), eσ13, dk_up_n (show ¬ (187 = 187 ∧ j_ = n) by omega)]) (by rw [eσ26, dk_up_n (show ¬ (187 = 189 ∧ n = h) by omega), eσ21, dk_up_n (show ¬ (187 = 188 ∧ n = h) by omega)]; exact hh.symm) (fun x_ => by first | (rw [show n + 1 = v27 by omega, eσ26, dk_up_s]) | (exfalso; omega))).1 | exact (show v27 = n - 1 by omega) ▸ (FT_back (σ' := σ26) hFT (by omega) (by omega) (by omega) (fun j_ a_ b_ => by rw [eσ26, dk_up_n (show ¬ (187 = 189 ∧ j_ = h) by omega), eσ21, dk_up_n (show ¬ (187 = 188 ∧ j_ = h) by omega), hF110 187 j_ (by omega), eσ13, dk_up_n (show ¬ (187 = 187 ∧ j_ = n) by omega)])).1) (by first | exact (fun e_ => ⟨by omega, fun x_ => by first | (rw [eσ26, dk_up_s]) | (exfalso; omega), fun j_ x_ y_ => by first | exact hz j_ (by omega) (by omega) | (rw [eσ26, dk_up_n (by omega), dk_up_n (by omega)]; exact hz j_ (by omega) (by omega))⟩) | exact (fun e_ => by have t_ := hTR e_; have u_ := t_.2.1 (by omega); have w_ := ht e_; refine ⟨by omega, fun x_ => by first | (rw [eσ26, dk_up_s]) | (exfalso; omega), fun j_ x_ y_ => ⟨by rw [eσ26, dk_up_n (show ¬ (188 = 189 ∧ j_ = h) by omega), eσ21, dk_up_n (show ¬ (188 = 188 ∧ j_ = h) by omega), hF110 188 j_ (by omega), eσ13, dk_up_n (show ¬ (188 = 187 ∧ j_ = n) by omega)]; exact (t_.2.2 j_ (by omega) y_).1, by rw [eσ26, dk_up_n (show ¬ (189 = 189 ∧ j_ = h) by omega), eσ21, dk_up_n (show ¬ (189 = 188 ∧ j_ = h) by omega), hF110 189 j_ (by omega), eσ13, dk_up_n (show ¬ (189 = 187 ∧ j_ = n) by omega)]; exact (t_.2.2 j_ (by omega) y_).2⟩⟩) | exact (fun e_ => by have t_ := hTR e_; have u_ := t_.2.1 (by omega); exfalso; omega) | exact (fun e_ => by have w_ := ht e_; exfalso; omega))
                            · skip
                              refine dk_aload_n (pc' := 235) hE dX11_fits_234 rfl rfl rfl ?_
                              refine gf_11_76 (pc' := 238) (w := 187) hE fl_X11_152 dX11_fits_235 is_141 rfl rfl ?_
                              refine dk_iload_n (pc' := 239) hE dX11_fits_238 rfl rfl rfl ?_
                              refine dk_iconst (pc' := 240) hE dX11_fits_239 (by decide) rfl ?_
                              refine pa_115 (pc' := 241) hE dX11_fits_240 is_187 (by omega) (by omega) rfl (fun σ32 eσ32 => ?_)
                              refine dk_goto (tgt := 44) hE dX11_fits_241 (by decide) ?_
                              exact ih44 v27 (σ32 187 v27) σ32 (by first | (have h_ := (FT_fwd (h := h) (σ' := σ32) hFT (by omega) (by omega) (by omega) (fun j_ a_ b_ => by rw [eσ32, dk_up_n (show ¬ (187 = 187 ∧ j_ = v27) by omega), eσ26, dk_up_n (show ¬ (187 = 189 ∧ j_ = h) by omega), eσ21, dk_up_n (show ¬ (187 = 188 ∧ j_ = h) by omega), hF110 187 j_ (by omega), eσ13, dk_up_n (show ¬ (187 = 187 ∧ j_ = n) by omega)]) (by rw [eσ32, dk_up_n (show ¬ (187 = 187 ∧ n = v27) by omega), eσ26, dk_up_n (show ¬ (187 = 189 ∧ n = h) by omega), eσ21, dk_up_n (show ¬ (187 = 188 ∧ n = h) by omega)]; exact hh.symm) (fun x_ => by first | (rw [show n + 1 = v27 by omega, eσ32, dk_up_s]) | (exfalso; omega))).2; rw [show v27 = n + 1 by omega]; omega) | (have h_ := (FT_back (σ' := σ32) hFT (by omega) (by omega) (by omega) (fun j_ a_ b_ => by rw [eσ32, dk_up_n (show ¬ (187 = 187 ∧ j_ = v27) by omega), eσ26, dk_up_n (show ¬ (187 = 189 ∧ j_ = h) by omega), eσ21, dk_up_n (show ¬ (187 = 188 ∧ j_ = h) by omega), hF110 187 j_ (by omega), eσ13, dk_up_n (show ¬ (187 = 187 ∧ j_ = n) by omega)])).2; rw [show v27 = n - 1 by omega]; omega)) (fun k_ j_ h_ => by rw [eσ32, dk_up_n (show ¬ (k_ = 187 ∧ j_ = v27) from fun q_ => h_ (dk_wr (lo := 187) (hi := 189) q_.1 (by decide))), eσ26, dk_up_n (show ¬ (k_ = 189 ∧ j_ = h) from fun q_ => h_ (dk_wr (lo := 187) (hi := 189) q_.1 (by decide))), eσ21, dk_up_n (show ¬ (k_ = 188 ∧ j_ = h) from fun q_ => h_ (dk_wr (lo := 187) (hi := 189) q_.1 (by decide))), hF110 k_ j_ (fun w_ => h_ (dk_wr (lo := 187) (hi := 189) w_.1 (by decide))), eσ13, dk_up_n (show ¬ (k_ = 187 ∧ j_ = n) from fun q_ => h_ (dk_wr (lo := 187) (hi := 189) q_.1 (by decide))), hF44 k_ j_ (fun w_ => h_ (w_))]) (rfl) (by first | exact ⟨by omega, by omega, fun i_ x_ y_ => by omega, fun x_ y_ => by first | (rw [eσ32, dk_up_s]; omega) | (exfalso; omega)⟩ | exact (show v27 = n + 1 by omega) ▸ (FT_fwd (h := h) (σ' := σ32) hFT (by omega) (by omega) (by omega) (fun j_ a_ b_ => by rw [eσ32, dk_up_n (show ¬ (187 = 187 ∧ j_ = v27) by omega), eσ26, dk_up_n (show ¬ (187 = 189 ∧ j_ = h) by omega), eσ21, dk_up_n (show ¬ (187 = 188 ∧ j_ = h) by omega), hF110 187 j_ (by omega), eσ13, dk_up_n (show ¬ (187 = 187 ∧ j_ = n) by omega)]) (by rw [eσ32, dk_up_n (show ¬ (187 = 187 ∧ n = v27) by omega), eσ26, dk_up_n (show ¬ (187 = 189 ∧ n = h) by omega), eσ21, dk_up_n (show ¬ (187 = 188 ∧ n = h) by omega)]; exact hh.symm) (fun x_ => by first | (rw [show n + 1 = v27 by omega, eσ32, dk_up_s]) | (exfalso; omega))).1 | exact (show v27 = n - 1 by omega) ▸ (FT_back (σ' := σ32) hFT (by omega) (by omega) (by omega) (fun j_ a_ b_ => by rw [eσ32, dk_up_n (show ¬ (187 = 187 ∧ j_ = v27) by omega), eσ26, dk_up_n (show ¬ (187 = 189 ∧ j_ = h) by omega), eσ21, dk_up_n (show ¬ (187 = 188 ∧ j_ = h) by omega), hF110 187 j_ (by omega), eσ13, dk_up_n (show ¬ (187 = 187 ∧ j_ = n) by omega)])).1) (by first | exact (fun e_ => ⟨by omega, fun x_ => by first | (rw [eσ32, dk_up_s]) | (exfalso; omega), fun j_ x_ y_ => by first | exact hz j_ (by omega) (by omega) | (rw [eσ32, dk_up_n (by omega), dk_up_n (by omega)]; exact hz j_ (by omega) (by omega))⟩) | exact (fun e_ => by have t_ := hTR e_; have u_ := t_.2.1 (by omega); have w_ := ht e_; refine ⟨by omega, fun x_ => by first | (rw [eσ32, dk_up_s]) | (exfalso; omega), fun j_ x_ y_ => ⟨by rw [eσ32, dk_up_n (show ¬ (188 = 187 ∧ j_ = v27) by omega), eσ26, dk_up_n (show ¬ (188 = 189 ∧ j_ = h) by omega), eσ21, dk_up_n (show ¬ (188 = 188 ∧ j_ = h) by omega), hF110 188 j_ (by omega), eσ13, dk_up_n (show ¬ (188 = 187 ∧ j_ = n) by omega)]; exact (t_.2.2 j_ (by omega) y_).1, by rw [eσ32, dk_up_n (show ¬ (189 = 187 ∧ j_ = v27) by omega), eσ26, dk_up_n (show ¬ (189 = 189 ∧ j_ = h) by omega), eσ21, dk_up_n (show ¬ (189 = 188 ∧ j_ = h) by omega), hF110 189 j_ (by omega), eσ13, dk_up_n (show ¬ (189 = 187 ∧ j_ = n) by omega)]; exact (t_.2.2 j_ (by omega) y_).2⟩⟩) | exact (fun e_ => by have t_ := hTR e_; have u_ := t_.2.1 (by omega); exfalso; omega) | exact (fun e_ => by have w_ := ht e_; exfalso; omega))
                          · skip
                            obtain ⟨v35, hv35⟩ : ∃ z : Int, z = n + (-1) := ⟨_, rfl⟩
                            refine dk_iinc (pc' := 185) (ls' := [(4, 141), (0, a), (0, v35)]) hE dX11_fits_182 rfl hv35.symm (by omega) rfl (by decide) rfl ?_
                            refine dk_goto (tgt := 44) hE dX11_fits_185 (by decide) ?_
                            exact ih44 v35 (σ110c 187 v35) σ110c (by first | (have h_ := (FT_fwd (h := h) (σ' := σ110c) hFT (by omega) (by omega) (by omega) (fun j_ a_ b_ => by rw [hF110 187 j_ (by omega), eσ13, dk_up_n (show ¬ (187 = 187 ∧ j_ = n) by omega)]) (by rw []; exact hh.symm) (fun x_ => by first | (rw [show n + 1 = v35 by omega, rfl, dk_up_s]) | (exfalso; omega))).2; rw [show v35 = n + 1 by omega]; omega) | (have h_ := (FT_back (σ' := σ110c) hFT (by omega) (by omega) (by omega) (fun j_ a_ b_ => by rw [hF110 187 j_ (by omega), eσ13, dk_up_n (show ¬ (187 = 187 ∧ j_ = n) by omega)])).2; rw [show v35 = n - 1 by omega]; omega)) (fun k_ j_ h_ => by rw [hF110 k_ j_ (fun w_ => h_ (dk_wr (lo := 187) (hi := 189) w_.1 (by decide))), eσ13, dk_up_n (show ¬ (k_ = 187 ∧ j_ = n) from fun q_ => h_ (dk_wr (lo := 187) (hi := 189) q_.1 (by decide))), hF44 k_ j_ (fun w_ => h_ (w_))]) (rfl) (by first | exact ⟨by omega, by omega, fun i_ x_ y_ => by omega, fun x_ y_ => by first | (rw [rfl, dk_up_s]; omega) | (exfalso; omega)⟩ | exact (show v35 = n + 1 by omega) ▸ (FT_fwd (h := h) (σ' := σ110c) hFT (by omega) (by omega) (by omega) (fun j_ a_ b_ => by rw [hF110 187 j_ (by omega), eσ13, dk_up_n (show ¬ (187 = 187 ∧ j_ = n) by omega)]) (by rw []; exact hh.symm) (fun x_ => by first | (rw [show n + 1 = v35 by omega, rfl, dk_up_s]) | (exfalso; omega))).1 | exact (show v35 = n - 1 by omega) ▸ (FT_back (σ' := σ110c) hFT (by omega) (by omega) (by omega) (fun j_ a_ b_ => by rw [hF110 187 j_ (by omega), eσ13, dk_up_n (show ¬ (187 = 187 ∧ j_ = n) by omega)])).1) (by first | exact (fun e_ => ⟨by omega, fun x_ => by first | (rw [rfl, dk_up_s]) | (exfalso; omega), fun j_ x_ y_ => by first | exact hz j_ (by omega) (by omega) | (rw [rfl, dk_up_n (by omega), dk_up_n (by omega)]; exact hz j_ (by omega) (by omega))⟩) | exact (fun e_ => by have t_ := hTR e_; have u_ := t_.2.1 (by omega); have w_ := ht e_; refine ⟨by omega, fun x_ => by first | (rw [rfl, dk_up_s]) | (exfalso; omega), fun j_ x_ y_ => ⟨by rw [hF110 188 j_ (by omega), eσ13, dk_up_n (show ¬ (188 = 187 ∧ j_ = n) by omega)]; exact (t_.2.2 j_ (by omega) y_).1, by rw [hF110 189 j_ (by omega), eσ13, dk_up_n (show ¬ (189 = 187 ∧ j_ = n) by omega)]; exact (t_.2.2 j_ (by omega) y_).2⟩⟩) | exact (fun e_ => by have t_ := hTR e_; have u_ := t_.2.1 (by omega); exfalso; omega) | exact (fun e_ => by have w_ := ht e_; exfalso; omega))
                        · skip
                          refine dk_aload_n (pc' := 121) hE dX11_fits_120 rfl rfl rfl ?_
                          refine gf_11_77 (pc' := 124) (w := 188) hE fl_X11_155 dX11_fits_121 is_141 rfl rfl ?_
                          refine dk_aload_n (pc' := 125) hE dX11_fits_124 rfl rfl rfl ?_
                          refine gf_11_76 (pc' := 128) (w := 187) hE fl_X11_152 dX11_fits_125 is_141 rfl rfl ?_
                          refine dk_iload_n (pc' := 129) hE dX11_fits_128 rfl rfl rfl ?_
                          refine ga_115 (pc' := 130) hE dX11_fits_129 is_187 (by omega) rfl (fun v38 hv38 htv38 hbv38 => ?_)
                          have hq38 : h = v38 := (show v38 = h by rw [hv38, hv14]).symm
                          subst hq38
                          clear htv38 hbv38
                          refine ga_116 (pc' := 131) hE dX11_fits_130 is_188 (by omega) rfl (fun v39 hv39 htv39 hbv39 => ?_)
                          have hq130 : R ≤ a → n ≤ h → v39 = 0 := fun e_ l_ => by have t_ := (hTR e_).2.2 h l_ (by omega); have u_ := (hTR e_).2.1 (by omega); rw [hv39, hF110 188 h (by omega), eσ13, dk_up_n (show ¬ (188 = 187 ∧ h = n) by omega)]; exact t_.1
                          refine dk_aload_n (pc' := 132) hE dX11_fits_131 rfl rfl rfl ?_
                          refine gf_11_80 (pc' := 135) hE fl_X11_161 dX11_fits_132 is_141 rfl (fun v40 hv40 htv40 hbv40 => ?_)
                          refine dk_icmp_eq (tgt := 159) (pc' := 138) hE dX11_fits_135 (by decide) rfl (fun hc41 => ?_) (fun hc41 => ?_)
                          · skip
                            refine dk_aload_n (pc' := 160) hE dX11_fits_159 rfl rfl rfl ?_
                            refine gf_11_76 (pc' := 163) (w := 187) hE fl_X11_152 dX11_fits_160 is_141 rfl rfl ?_
                            refine dk_iload_n (pc' := 164) hE dX11_fits_163 rfl rfl rfl ?_
                            refine dk_dup2 (pc' := 165) hE dX11_fits_164 (show (0 : Nat) ≠ 3 by decide) (show (4 : Nat) ≠ 3 by decide) rfl ?_
                            refine ga_115 (pc' := 166) hE dX11_fits_165 is_187 (by omega) rfl (fun v42 hv42 htv42 hbv42 => ?_)
                            have hq42 : h = v42 := (show v42 = h by rw [hv42, hv38]).symm
                            subst hq42
                            clear htv42 hbv42
                            refine dk_iconst (pc' := 167) hE dX11_fits_166 (by decide) rfl ?_
                            obtain ⟨v43, hv43⟩ : ∃ z : Int, z = h + 1 := ⟨_, rfl⟩
                            refine dk_iadd (pc' := 168) hE dX11_fits_167 hv43.symm (by omega) rfl ?_
                            refine pa_115 (pc' := 169) hE dX11_fits_168 is_187 (by omega) (by omega) rfl (fun σ44 eσ44 => ?_)
                            refine dk_goto (tgt := 110) hE dX11_fits_169 (by decide) ?_
                            have hz44_187_n : σ44 187 n = v43 := by rw [eσ44, dk_up_s]
                            exact ih110 (σ44 187 n) σ44 (by omega) (fun k_ j_ h_ => by rw [eσ44, dk_up_n (show ¬ (k_ = 187 ∧ j_ = n) from fun q_ => h_ (q_)), hF110 k_ j_ (fun w_ => h_ (w_))]) (rfl) (by omega) (fun e_ => by have t_ := hTR e_; have u_ := t_.2.1 (by omega); omega)
                          · skip
                            refine dk_aload_n (pc' := 139) hE dX11_fits_138 rfl rfl rfl ?_
                            refine gf_11_78 (pc' := 142) (w := 189) hE fl_X11_158 dX11_fits_139 is_141 rfl rfl ?_
                            refine dk_aload_n (pc' := 143) hE dX11_fits_142 rfl rfl rfl ?_
                            refine gf_11_76 (pc' := 146) (w := 187) hE fl_X11_152 dX11_fits_143 is_141 rfl rfl ?_
                            refine dk_iload_n (pc' := 147) hE dX11_fits_146 rfl rfl rfl ?_
                            refine ga_115 (pc' := 148) hE dX11_fits_147 is_187 (by omega) rfl (fun v46 hv46 htv46 hbv46 => ?_)
                            have hq46 : h = v46 := (show v46 = h by rw [hv46, hv38]).symm
                            subst hq46
                            clear htv46 hbv46
                            refine ga_117 (pc' := 149) hE dX11_fits_148 is_189 (by omega) rfl (fun v47 hv47 htv47 hbv47 => ?_)
                            have hq148 : R ≤ a → n ≤ h → v47 = 0 := fun e_ l_ => by have t_ := (hTR e_).2.2 h l_ (by omega); have u_ := (hTR e_).2.1 (by omega); rw [hv47, hF110 189 h (by omega), eσ13, dk_up_n (show ¬ (189 = 187 ∧ h = n) by omega)]; exact t_.2
                            refine dk_aload_n (pc' := 150) hE dX11_fits_149 rfl rfl rfl ?_
                            refine gf_11_75 (pc' := 153) (w := 186) hE fl_X11_149 dX11_fits_150 is_141 rfl rfl ?_
                            refine dk_iload_n (pc' := 154) hE dX11_fits_153 rfl rfl rfl ?_
                            refine ga_114 (pc' := 155) hE dX11_fits_154 is_186 (by omega) rfl (fun v48 hv48 htv48 hbv48 => ?_)
                            refine dk_iand (pc' := 156) hE dX11_fits_155 rfl (fun v49 hv49 ev49 => ?_)
                            have hq155 : v47 = 0 → v49 = 0 := fun e_ => by rw [ev49, e_]; exact dk_and0
                            refine dk_if_eq (tgt := 172) (pc' := 159) hE dX11_fits_156 (by decide) rfl (fun hc50 => ?_) (fun hc50 => ?_)
                            · skip
                              refine dk_aload_n (pc' := 173) hE dX11_fits_172 rfl rfl rfl ?_
                              refine gf_11_76 (pc' := 176) (w := 187) hE fl_X11_152 dX11_fits_173 is_141 rfl rfl ?_
                              refine dk_iload_n (pc' := 177) hE dX11_fits_176 rfl rfl rfl ?_
                              refine ga_115 (pc' := 178) hE dX11_fits_177 is_187 (by omega) rfl (fun v51 hv51 htv51 hbv51 => ?_)
                              have hq51 : h = v51 := (show v51 = h by rw [hv51, hv46]).symm
                              subst hq51
                              clear htv51 hbv51
                              refine dk_iload_n (pc' := 179) hE dX11_fits_178 rfl rfl rfl ?_
                              refine dk_icmp_ne (tgt := 188) (pc' := 182) hE dX11_fits_179 (by decide) rfl (fun hc52 => ?_) (fun hc52 => ?_)
                              · skip
                                refine dk_aload_n (pc' := 189) hE dX11_fits_188 rfl rfl rfl ?_
                                refine gf_11_77 (pc' := 192) (w := 188) hE fl_X11_155 dX11_fits_189 is_141 rfl rfl ?_
                                refine dk_aload_n (pc' := 193) hE dX11_fits_192 rfl rfl rfl ?_
                                refine gf_11_76 (pc' := 196) (w := 187) hE fl_X11_152 dX11_fits_193 is_141 rfl rfl ?_
                                refine dk_iload_n (pc' := 197) hE dX11_fits_196 rfl rfl rfl ?_
                                refine ga_115 (pc' := 198) hE dX11_fits_197 is_187 (by omega) rfl (fun v53 hv53 htv53 hbv53 => ?_)
                                have hq53 : h = v53 := (show v53 = h by rw [hv53, hv51]).symm
                                subst hq53
                                clear htv53 hbv53
                                refine dk_dup2 (pc' := 199) hE dX11_fits_198 (show (0 : Nat) ≠ 3 by decide) (show (4 : Nat) ≠ 3 by decide) rfl ?_
                                refine ga_116 (pc' := 200) hE dX11_fits_199 is_188 (by omega) rfl (fun v54 hv54 htv54 hbv54 => ?_)
                                have hq54 : v39 = v54 := (show v54 = v39 by rw [hv54, hv39]).symm
                                subst hq54
                                clear htv54 hbv54
                                refine dk_iconst (pc' := 201) hE dX11_fits_200 (by decide) rfl ?_
                                refine dk_iaddW (pc' := 202) hE dX11_fits_201 rfl (fun v55 hv55 _ => ?_)
                                refine pa_116 (pc' := 203) hE dX11_fits_202 is_188 (by omega) trivial rfl (fun σ56 eσ56 => ?_)
                                refine dk_aload_n (pc' := 204) hE dX11_fits_203 rfl rfl rfl ?_
                                refine gf_11_78 (pc' := 207) (w := 189) hE fl_X11_158 dX11_fits_204 is_141 rfl rfl ?_
                                refine dk_aload_n (pc' := 208) hE dX11_fits_207 rfl rfl rfl ?_
                                refine gf_11_76 (pc' := 211) (w := 187) hE fl_X11_152 dX11_fits_208 is_141 rfl rfl ?_
                                refine dk_iload_n (pc' := 212) hE dX11_fits_211 rfl rfl rfl ?_
                                refine ga_115 (pc' := 213) hE dX11_fits_212 is_187 (by omega) rfl (fun v57 hv57 htv57 hbv57 => ?_)
                                have hq57 : h = v57 := (show v57 = h by rw [hv57, eσ56, dk_up_n (show ¬ (187 = 188 ∧ n = h) by omega), hv53]).symm
                                subst hq57
                                clear htv57 hbv57
                                refine dk_dup2 (pc' := 214) hE dX11_fits_213 (show (0 : Nat) ≠ 3 by decide) (show (4 : Nat) ≠ 3 by decide) rfl ?_
                                refine ga_117 (pc' := 215) hE dX11_fits_214 is_189 (by omega) rfl (fun v58 hv58 htv58 hbv58 => ?_)
                                have hq58 : v47 = v58 := (show v58 = v47 by rw [hv58, eσ56, dk_up_n (show ¬ (189 = 188 ∧ h = h) by omega), hv47]).symm
                                subst hq58
                                clear htv58 hbv58
                                refine dk_aload_n (pc' := 216) hE dX11_fits_215 rfl rfl rfl ?_
                                refine gf_11_75 (pc' := 219) (w := 186) hE fl_X11_149 dX11_fits_216 is_141 rfl rfl ?_
                                refine dk_iload_n (pc' := 220) hE dX11_fits_219 rfl rfl rfl ?_
                                refine ga_114 (pc' := 221) hE dX11_fits_220 is_186 (by omega) rfl (fun v59 hv59 htv59 hbv59 => ?_)
                                have hq59 : v48 = v59 := (show v59 = v48 by rw [hv59, eσ56, dk_up_n (show ¬ (186 = 188 ∧ n = h) by omega), hv48]).symm
                                subst hq59
                                clear htv59 hbv59
                                refine dk_iaddW (pc' := 222) hE dX11_fits_221 rfl (fun v60 hv60 _ => ?_)
                                refine pa_117 (pc' := 223) hE dX11_fits_222 is_189 (by omega) trivial rfl (fun σ61 eσ61 => ?_)
                                obtain ⟨v62, hv62⟩ : ∃ z : Int, z = n + 1 := ⟨_, rfl⟩
                                refine dk_iinc (pc' := 226) (ls' := [(4, 141), (0, a), (0, v62)]) hE dX11_fits_223 rfl hv62.symm (by omega) rfl (by decide) rfl ?_
                                refine dk_iload_n (pc' := 227) hE dX11_fits_226 rfl rfl rfl ?_
                                refine dk_aload_n (pc' := 228) hE dX11_fits_227 rfl rfl rfl ?_
                                refine gf_11_79 (pc' := 231) hE fl_X11_278 dX11_fits_228 is_141 rfl (fun v63 hv63 htv63 hbv63 => ?_)
                                have hq63 : R = v63 := (show v63 = R by rw [hv63, eσ61, dk_up_n (show ¬ (141 = 189 ∧ 79 = h) by omega), eσ56, dk_up_n (show ¬ (141 = 188 ∧ 79 = h) by omega), hF110 141 79 (by omega), eσ13, dk_up_n (show ¬ (141 = 187 ∧ 79 = n) by omega), hv6]).symm
                                subst hq63
                                clear htv63 hbv63
                                refine dk_icmp_ge (tgt := 44) (pc' := 234) hE dX11_fits_231 (by decide) rfl (fun hc64 => ?_) (fun hc64 => ?_)
                                · skip
                                  exact ih44 v62 (σ61 187 v62) σ61 (by first | (have h_ := (FT_fwd (h := h) (σ' := σ61) hFT (by omega) (by omega) (by omega) (fun j_ a_ b_ => by rw [eσ61, dk_up_n (show ¬ (187 = 189 ∧ j_ = h) by omega), eσ56, dk_up_n (show ¬ (187 = 188 ∧ j_ = h) by omega), hF110 187 j_ (by omega), eσ13, dk_up_n (show ¬ (187 = 187 ∧ j_ = n) by omega)]) (by rw [eσ61, dk_up_n (show ¬ (187 = 189 ∧ n = h) by omega), eσ56, dk_up_n (show ¬ (187 = 188 ∧ n = h) by omega)]; exact hh.symm) (fun x_ => by first | (rw [show n + 1 = v62 by omega, eσ61, dk_up_s]) | (exfalso; omega))).2; rw [show v62 = n + 1 by omega]; omega) | (have h_ := (FT_back (σ' := σ61) hFT (by omega) (by omega) (by omega) (fun j_ a_ b_ => by rw [eσ61, dk_up_n (show ¬ (187 = 189 ∧ j_ = h) by omega), eσ56, dk_up_n (show ¬ (187 = 188 ∧ j_ = h) by omega), hF110 187 j_ (by omega), eσ13, dk_up_n (show ¬ (187 = 187 ∧ j_ = n) by omega)])).2; rw [show v62 = n - 1 by omega]; omega)) (fun k_ j_ h_ => by rw [eσ61, dk_up_n (show ¬ (k_ = 189 ∧ j_ = h) from fun q_ => h_ (dk_wr (lo := 187) (hi := 189) q_.1 (by decide))), eσ56, dk_up_n (show ¬ (k_ = 188 ∧ j_ = h) from fun q_ => h_ (dk_wr (lo := 187) (hi := 189) q_.1 (by decide))), hF110 k_ j_ (fun w_ => h_ (dk_wr (lo := 187) (hi := 189) w_.1 (by decide))), eσ13, dk_up_n (show ¬ (k_ = 187 ∧ j_ = n) from fun q_ => h_ (dk_wr (lo := 187) (hi := 189) q_.1 (by decide))), hF44 k_ j_ (fun w_ => h_ (w_))]) (rfl) (by first | exact ⟨by omega, by omega, fun i_ x_ y_ => by omega, fun x_ y_ => by first | (rw [eσ61, dk_up_s]; omega) | (exfalso; omega)⟩ | exact (show v62 = n + 1 by omega) ▸ (FT_fwd (h := h) (σ' := σ61) hFT (by omega) (by omega) (by omega) (fun j_ a_ b_ => by rw [eσ61, dk_up_n (show ¬ (187 = 189 ∧ j_ = h) by omega), eσ56, dk_up_n (show ¬ (187 = 188 ∧ j_ = h) by omega), hF110 187 j_ (by omega), eσ13, dk_up_n (show ¬ (187 = 187 ∧ j_ = n) by omega)]) (by rw [eσ61, dk_up_n (show ¬ (187 = 189 ∧ n = h) by omega), eσ56, dk_up_n (show ¬ (187 = 188 ∧ n = h) by omega)]; exact hh.symm) (fun x_ => by first | (rw [show n + 1 = v62 by omega, eσ61, dk_up_s]) | (exfalso; omega))).1 | exact (show v62 = n - 1 by omega) ▸ (FT_back (σ' := σ61) hFT (by omega) (by omega) (by omega) (fun j_ a_ b_ => by rw [eσ61, dk_up_n (show ¬ (187 = 189 ∧ j_ = h) by omega), eσ56, dk_up_n (show ¬ (187 = 188 ∧ j_ = h) by omega), hF110 187 j_ (by omega), eσ13, dk_up_n (show ¬ (187 = 187 ∧ j_ = n) by omega)])).1) (by first | exact (fun e_ => ⟨by omega, fun x_ => by first | (rw [eσ61, dk_up_s]) | (exfalso; omega), fun j_ x_ y_ => by first | exact hz j_ (by omega) (by omega) | (rw [eσ61, dk_up_n (by omega), dk_up_n (by omega)]; exact hz j_ (by omega) (by omega))⟩) | exact (fun e_ => by have t_ := hTR e_; have u_ := t_.2.1 (by omega); have w_ := ht e_; refine ⟨by omega, fun x_ => by first | (rw [eσ61, dk_up_s]) | (exfalso; omega), fun j_ x_ y_ => ⟨by rw [eσ61, dk_up_n (show ¬ (188 = 189 ∧ j_ = h) by omega), eσ56, dk_up_n (show ¬ (188 = 188 ∧ j_ = h) by omega), hF110 188 j_ (by omega), eσ13, dk_up_n (show ¬ (188 = 187 ∧ j_ = n) by omega)]; exact (t_.2.2 j_ (by omega) y_).1, by rw [eσ61, dk_up_n (show ¬ (189 = 189 ∧ j_ = h) by omega), eσ56, dk_up_n (show ¬ (189 = 188 ∧ j_ = h) by omega), hF110 189 j_ (by omega), eσ13, dk_up_n (show ¬ (189 = 187 ∧ j_ = n) by omega)]; exact (t_.2.2 j_ (by omega) y_).2⟩⟩) | exact (fun e_ => by have t_ := hTR e_; have u_ := t_.2.1 (by omega); exfalso; omega) | exact (fun e_ => by have w_ := ht e_; exfalso; omega))
                                · skip
                                  refine dk_aload_n (pc' := 235) hE dX11_fits_234 rfl rfl rfl ?_
                                  refine gf_11_76 (pc' := 238) (w := 187) hE fl_X11_152 dX11_fits_235 is_141 rfl rfl ?_
                                  refine dk_iload_n (pc' := 239) hE dX11_fits_238 rfl rfl rfl ?_
                                  refine dk_iconst (pc' := 240) hE dX11_fits_239 (by decide) rfl ?_
                                  refine pa_115 (pc' := 241) hE dX11_fits_240 is_187 (by omega) (by omega) rfl (fun σ67 eσ67 => ?_)
                                  refine dk_goto (tgt := 44) hE dX11_fits_241 (by decide) ?_
                                  exact ih44 v62 (σ67 187 v62) σ67 (by first | (have h_ := (FT_fwd (h := h) (σ' := σ67) hFT (by omega) (by omega) (by omega) (fun j_ a_ b_ => by rw [eσ67, dk_up_n (show ¬ (187 = 187 ∧ j_ = v62) by omega), eσ61, dk_up_n (show ¬ (187 = 189 ∧ j_ = h) by omega), eσ56, dk_up_n (show ¬ (187 = 188 ∧ j_ = h) by omega), hF110 187 j_ (by omega), eσ13, dk_up_n (show ¬ (187 = 187 ∧ j_ = n) by omega)]) (by rw [eσ67, dk_up_n (show ¬ (187 = 187 ∧ n = v62) by omega), eσ61, dk_up_n (show ¬ (187 = 189 ∧ n = h) by omega), eσ56, dk_up_n (show ¬ (187 = 188 ∧ n = h) by omega)]; exact hh.symm) (fun x_ => by first | (rw [show n + 1 = v62 by omega, eσ67, dk_up_s]) | (exfalso; omega))).2; rw [show v62 = n + 1 by omega]; omega) | (have h_ := (FT_back (σ' := σ67) hFT (by omega) (by omega) (by omega) (fun j_ a_ b_ => by rw [eσ67, dk_up_n (show ¬ (187 = 187 ∧ j_ = v62) by omega), eσ61, dk_up_n (show ¬ (187 = 189 ∧ j_ = h) by omega), eσ56, dk_up_n (show ¬ (187 = 188 ∧ j_ = h) by omega), hF110 187 j_ (by omega), eσ13, dk_up_n (show ¬ (187 = 187 ∧ j_ = n) by omega)])).2; rw [show v62 = n - 1 by omega]; omega)) (fun k_ j_ h_ => by rw [eσ67, dk_up_n (show ¬ (k_ = 187 ∧ j_ = v62) from fun q_ => h_ (dk_wr (lo := 187) (hi := 189) q_.1 (by decide))), eσ61, dk_up_n (show ¬ (k_ = 189 ∧ j_ = h) from fun q_ => h_ (dk_wr (lo := 187) (hi := 189) q_.1 (by decide))), eσ56, dk_up_n (show ¬ (k_ = 188 ∧ j_ = h) from fun q_ => h_ (dk_wr (lo := 187) (hi := 189) q_.1 (by decide))), hF110 k_ j_ (fun w_ => h_ (dk_wr (lo := 187) (hi := 189) w_.1 (by decide))), eσ13, dk_up_n (show ¬ (k_ = 187 ∧ j_ = n) from fun q_ => h_ (dk_wr (lo := 187) (hi := 189) q_.1 (by decide))), hF44 k_ j_ (fun w_ => h_ (w_))]) (rfl) (by first | exact ⟨by omega, by omega, fun i_ x_ y_ => by omega, fun x_ y_ => by first | (rw [eσ67, dk_up_s]; omega) | (exfalso; omega)⟩ | exact (show v62 = n + 1 by omega) ▸ (FT_fwd (h := h) (σ' := σ67) hFT (by omega) (by omega) (by omega) (fun j_ a_ b_ => by rw [eσ67, dk_up_n (show ¬ (187 = 187 ∧ j_ = v62) by omega), eσ61, dk_up_n (show ¬ (187 = 189 ∧ j_ = h) by omega), eσ56, dk_up_n (show ¬ (187 = 188 ∧ j_ = h) by omega), hF110 187 j_ (by omega), eσ13, dk_up_n (show ¬ (187 = 187 ∧ j_ = n) by omega)]) (by rw [eσ67, dk_up_n (show ¬ (187 = 187 ∧ n = v62) by omega), eσ61, dk_up_n (show ¬ (187 = 189 ∧ n = h) by omega), eσ56, dk_up_n (show ¬ (187 = 188 ∧ n = h) by omega)]; exact hh.symm) (fun x_ => by first | (rw [show n + 1 = v62 by omega, eσ67, dk_up_s]) | (exfalso; omega))).1 | exact (show v62 = n - 1 by omega) ▸ (FT_back (σ' := σ67) hFT (by omega) (by omega) (by omega) (fun j_ a_ b_ => by rw [eσ67, dk_up_n (show ¬ (187 = 187 ∧ j_ = v62) by omega), eσ61, dk_up_n (show ¬ (187 = 189 ∧ j_ = h) by omega), eσ56, dk_up_n (show ¬ (187 = 188 ∧ j_ = h) by omega), hF110 187 j_ (by omega), eσ13, dk_up_n (show ¬ (187 = 187 ∧ j_ = n) by omega)])).1) (by first | exact (fun e_ => ⟨by omega, fun x_ => by first | (rw [eσ67, dk_up_s]) | (exfalso; omega), fun j_ x_ y_ => by first | exact hz j_ (by omega) (by omega) | (rw [eσ67, dk_up_n (by omega), dk_up_n (by omega)]; exact hz j_ (by omega) (by omega))⟩) | exact (fun e_ => by have t_ := hTR e_; have u_ := t_.2.1 (by omega); have w_ := ht e_; refine ⟨by omega, fun x_ => by first | (rw [eσ67, dk_up_s]) | (exfalso; omega), fun j_ x_ y_ => ⟨by rw [eσ67, dk_up_n (show ¬ (188 = 187 ∧ j_ = v62) by omega), eσ61, dk_up_n (show ¬ (188 = 189 ∧ j_ = h) by omega), eσ56, dk_up_n (show ¬ (188 = 188 ∧ j_ = h) by omega), hF110 188 j_ (by omega), eσ13, dk_up_n (show ¬ (188 = 187 ∧ j_ = n) by omega)]; exact (t_.2.2 j_ (by omega) y_).1, by rw [eσ67, dk_up_n (show ¬ (189 = 187 ∧ j_ = v62) by omega), eσ61, dk_up_n (show ¬ (189 = 189 ∧ j_ = h) by omega), eσ56, dk_up_n (show ¬ (189 = 188 ∧ j_ = h) by omega), hF110 189 j_ (by omega), eσ13, dk_up_n (show ¬ (189 = 187 ∧ j_ = n) by omega)]; exact (t_.2.2 j_ (by omega) y_).2⟩⟩) | exact (fun e_ => by have t_ := hTR e_; have u_ := t_.2.1 (by omega); exfalso; omega) | exact (fun e_ => by have w_ := ht e_; exfalso; omega))
                              · skip
                                obtain ⟨v70, hv70⟩ : ∃ z : Int, z = n + (-1) := ⟨_, rfl⟩
                                refine dk_iinc (pc' := 185) (ls' := [(4, 141), (0, a), (0, v70)]) hE dX11_fits_182 rfl hv70.symm (by omega) rfl (by decide) rfl ?_
                                refine dk_goto (tgt := 44) hE dX11_fits_185 (by decide) ?_
                                exact ih44 v70 (σ110c 187 v70) σ110c (by first | (have h_ := (FT_fwd (h := h) (σ' := σ110c) hFT (by omega) (by omega) (by omega) (fun j_ a_ b_ => by rw [hF110 187 j_ (by omega), eσ13, dk_up_n (show ¬ (187 = 187 ∧ j_ = n) by omega)]) (by rw []; exact hh.symm) (fun x_ => by first | (rw [show n + 1 = v70 by omega, rfl, dk_up_s]) | (exfalso; omega))).2; rw [show v70 = n + 1 by omega]; omega) | (have h_ := (FT_back (σ' := σ110c) hFT (by omega) (by omega) (by omega) (fun j_ a_ b_ => by rw [hF110 187 j_ (by omega), eσ13, dk_up_n (show ¬ (187 = 187 ∧ j_ = n) by omega)])).2; rw [show v70 = n - 1 by omega]; omega)) (fun k_ j_ h_ => by rw [hF110 k_ j_ (fun w_ => h_ (dk_wr (lo := 187) (hi := 189) w_.1 (by decide))), eσ13, dk_up_n (show ¬ (k_ = 187 ∧ j_ = n) from fun q_ => h_ (dk_wr (lo := 187) (hi := 189) q_.1 (by decide))), hF44 k_ j_ (fun w_ => h_ (w_))]) (rfl) (by first | exact ⟨by omega, by omega, fun i_ x_ y_ => by omega, fun x_ y_ => by first | (rw [rfl, dk_up_s]; omega) | (exfalso; omega)⟩ | exact (show v70 = n + 1 by omega) ▸ (FT_fwd (h := h) (σ' := σ110c) hFT (by omega) (by omega) (by omega) (fun j_ a_ b_ => by rw [hF110 187 j_ (by omega), eσ13, dk_up_n (show ¬ (187 = 187 ∧ j_ = n) by omega)]) (by rw []; exact hh.symm) (fun x_ => by first | (rw [show n + 1 = v70 by omega, rfl, dk_up_s]) | (exfalso; omega))).1 | exact (show v70 = n - 1 by omega) ▸ (FT_back (σ' := σ110c) hFT (by omega) (by omega) (by omega) (fun j_ a_ b_ => by rw [hF110 187 j_ (by omega), eσ13, dk_up_n (show ¬ (187 = 187 ∧ j_ = n) by omega)])).1) (by first | exact (fun e_ => ⟨by omega, fun x_ => by first | (rw [rfl, dk_up_s]) | (exfalso; omega), fun j_ x_ y_ => by first | exact hz j_ (by omega) (by omega) | (rw [rfl, dk_up_n (by omega), dk_up_n (by omega)]; exact hz j_ (by omega) (by omega))⟩) | exact (fun e_ => by have t_ := hTR e_; have u_ := t_.2.1 (by omega); have w_ := ht e_; refine ⟨by omega, fun x_ => by first | (rw [rfl, dk_up_s]) | (exfalso; omega), fun j_ x_ y_ => ⟨by rw [hF110 188 j_ (by omega), eσ13, dk_up_n (show ¬ (188 = 187 ∧ j_ = n) by omega)]; exact (t_.2.2 j_ (by omega) y_).1, by rw [hF110 189 j_ (by omega), eσ13, dk_up_n (show ¬ (189 = 187 ∧ j_ = n) by omega)]; exact (t_.2.2 j_ (by omega) y_).2⟩⟩) | exact (fun e_ => by have t_ := hTR e_; have u_ := t_.2.1 (by omega); exfalso; omega) | exact (fun e_ => by have w_ := ht e_; exfalso; omega))
                            · skip
                              refine dk_aload_n (pc' := 160) hE dX11_fits_159 rfl rfl rfl ?_
                              refine gf_11_76 (pc' := 163) (w := 187) hE fl_X11_152 dX11_fits_160 is_141 rfl rfl ?_
                              refine dk_iload_n (pc' := 164) hE dX11_fits_163 rfl rfl rfl ?_
                              refine dk_dup2 (pc' := 165) hE dX11_fits_164 (show (0 : Nat) ≠ 3 by decide) (show (4 : Nat) ≠ 3 by decide) rfl ?_
                              refine ga_115 (pc' := 166) hE dX11_fits_165 is_187 (by omega) rfl (fun v73 hv73 htv73 hbv73 => ?_)
                              have hq73 : h = v73 := (show v73 = h by rw [hv73, hv46]).symm
                              subst hq73
                              clear htv73 hbv73
                              refine dk_iconst (pc' := 167) hE dX11_fits_166 (by decide) rfl ?_
                              obtain ⟨v74, hv74⟩ : ∃ z : Int, z = h + 1 := ⟨_, rfl⟩
                              refine dk_iadd (pc' := 168) hE dX11_fits_167 hv74.symm (by omega) rfl ?_
                              refine pa_115 (pc' := 169) hE dX11_fits_168 is_187 (by omega) (by omega) rfl (fun σ75 eσ75 => ?_)
                              refine dk_goto (tgt := 110) hE dX11_fits_169 (by decide) ?_
                              have hz75_187_n : σ75 187 n = v74 := by rw [eσ75, dk_up_s]
                              exact ih110 (σ75 187 n) σ75 (by omega) (fun k_ j_ h_ => by rw [eσ75, dk_up_n (show ¬ (k_ = 187 ∧ j_ = n) from fun q_ => h_ (q_)), hF110 k_ j_ (fun w_ => h_ (w_))]) (rfl) (by omega) (fun e_ => by have t_ := hTR e_; have u_ := t_.2.1 (by omega); omega)
                    have hz77 : σ13 187 n = v12 := by rw [eσ13, dk_up_s]
                    have hz77_187_n : σ13 187 n = v12 := by rw [eσ13, dk_up_s]
                    exact lp110 _ (σ13 187 n) σ13 (Nat.lt_succ_self _) (fun k_ j_ h_ => rfl) (rfl) (by omega) (fun e_ => by have t_ := hTR e_; have u_ := t_.2.1 (by omega); omega)
                  · skip
                    refine dk_aload_n (pc' := 66) hE dX11_fits_65 rfl rfl rfl ?_
                    refine gf_11_77 (pc' := 69) (w := 188) hE fl_X11_155 dX11_fits_66 is_141 rfl rfl ?_
                    refine dk_aload_n (pc' := 70) hE dX11_fits_69 rfl rfl rfl ?_
                    refine gf_11_76 (pc' := 73) (w := 187) hE fl_X11_152 dX11_fits_70 is_141 rfl rfl ?_
                    refine dk_iload_n (pc' := 74) hE dX11_fits_73 rfl rfl rfl ?_
                    refine ga_115 (pc' := 75) hE dX11_fits_74 is_187 (by omega) rfl (fun v79 hv79 htv79 hbv79 => ?_)
                    have hq79 : H = v79 := (show v79 = H by rw [hv79, hv9]).symm
                    subst hq79
                    clear htv79 hbv79
                    refine dk_dup2 (pc' := 76) hE dX11_fits_75 (show (0 : Nat) ≠ 3 by decide) (show (4 : Nat) ≠ 3 by decide) rfl ?_
                    refine ga_116 (pc' := 77) hE dX11_fits_76 is_188 (by omega) rfl (fun v80 hv80 htv80 hbv80 => ?_)
                    refine dk_iconst (pc' := 78) hE dX11_fits_77 (by decide) rfl ?_
                    refine dk_isubW (pc' := 79) hE dX11_fits_78 rfl (fun v81 hv81 _ => ?_)
                    refine pa_116 (pc' := 80) hE dX11_fits_79 is_188 (by omega) trivial rfl (fun σ82 eσ82 => ?_)
                    refine dk_aload_n (pc' := 81) hE dX11_fits_80 rfl rfl rfl ?_
                    refine gf_11_78 (pc' := 84) (w := 189) hE fl_X11_158 dX11_fits_81 is_141 rfl rfl ?_
                    refine dk_aload_n (pc' := 85) hE dX11_fits_84 rfl rfl rfl ?_
                    refine gf_11_76 (pc' := 88) (w := 187) hE fl_X11_152 dX11_fits_85 is_141 rfl rfl ?_
                    refine dk_iload_n (pc' := 89) hE dX11_fits_88 rfl rfl rfl ?_
                    refine ga_115 (pc' := 90) hE dX11_fits_89 is_187 (by omega) rfl (fun v83 hv83 htv83 hbv83 => ?_)
                    have hq83 : H = v83 := (show v83 = H by rw [hv83, eσ82, dk_up_n (show ¬ (187 = 188 ∧ n = H) by omega), hv79]).symm
                    subst hq83
                    clear htv83 hbv83
                    refine dk_dup2 (pc' := 91) hE dX11_fits_90 (show (0 : Nat) ≠ 3 by decide) (show (4 : Nat) ≠ 3 by decide) rfl ?_
                    refine ga_117 (pc' := 92) hE dX11_fits_91 is_189 (by omega) rfl (fun v84 hv84 htv84 hbv84 => ?_)
                    refine dk_aload_n (pc' := 93) hE dX11_fits_92 rfl rfl rfl ?_
                    refine gf_11_75 (pc' := 96) (w := 186) hE fl_X11_149 dX11_fits_93 is_141 rfl rfl ?_
                    refine dk_iload_n (pc' := 97) hE dX11_fits_96 rfl rfl rfl ?_
                    refine ga_114 (pc' := 98) hE dX11_fits_97 is_186 (by omega) rfl (fun v85 hv85 htv85 hbv85 => ?_)
                    refine dk_isubW (pc' := 99) hE dX11_fits_98 rfl (fun v86 hv86 _ => ?_)
                    refine pa_117 (pc' := 100) hE dX11_fits_99 is_189 (by omega) trivial rfl (fun σ87 eσ87 => ?_)
                    refine dk_aload_n (pc' := 101) hE dX11_fits_100 rfl rfl rfl ?_
                    refine gf_11_76 (pc' := 104) (w := 187) hE fl_X11_152 dX11_fits_101 is_141 rfl rfl ?_
                    refine dk_iload_n (pc' := 105) hE dX11_fits_104 rfl rfl rfl ?_
                    refine dk_dup2 (pc' := 106) hE dX11_fits_105 (show (0 : Nat) ≠ 3 by decide) (show (4 : Nat) ≠ 3 by decide) rfl ?_
                    refine ga_115 (pc' := 107) hE dX11_fits_106 is_187 (by omega) rfl (fun v88 hv88 htv88 hbv88 => ?_)
                    have hq88 : H = v88 := (show v88 = H by rw [hv88, eσ87, dk_up_n (show ¬ (187 = 189 ∧ n = H) by omega), hv83]).symm
                    subst hq88
                    clear htv88 hbv88
                    refine dk_iconst (pc' := 108) hE dX11_fits_107 (by decide) rfl ?_
                    obtain ⟨v89, hv89⟩ : ∃ z : Int, z = H + 1 := ⟨_, rfl⟩
                    refine dk_iadd (pc' := 109) hE dX11_fits_108 hv89.symm (by omega) rfl ?_
                    refine pa_115 (pc' := 110) hE dX11_fits_109 is_187 (by omega) (by omega) rfl (fun σ90 eσ90 => ?_)
                    have lp110 : ∀ (N_ : Nat) (h : Int) (σ110c : dkS), (a - h).toNat < N_ → ((∀ k_ j_ : Int, ¬ ((k_ = 187 ∧ j_ = n)) → σ110c k_ j_ = σ90 k_ j_)) → (h = σ110c 187 n) → (H + 1 ≤ h ∧ h ≤ a ∧ 0 ≤ h) → (R ≤ a → h ≤ n) → dk_PJ E 110 [(4, 141), (0, a), (0, n)] [] 190 σ110c := by
                      intro N110
                      induction N110 with
                      | zero => intro h σ110c hm; exact absurd hm (Nat.not_lt_zero _)
                      | succ N110 ih110 =>
                        intro h σ110c hm110 hF110 hh hr ht
                        refine dk_aload_n (pc' := 111) hE dX11_fits_110 rfl rfl rfl ?_
                        refine gf_11_76 (pc' := 114) (w := 187) hE fl_X11_152 dX11_fits_111 is_141 rfl rfl ?_
                        refine dk_iload_n (pc' := 115) hE dX11_fits_114 rfl rfl rfl ?_
                        refine ga_115 (pc' := 116) hE dX11_fits_115 is_187 (by omega) rfl (fun v91 hv91 htv91 hbv91 => ?_)
                        have hq91 : h = v91 := (show v91 = h by rw [hv91, hh]).symm
                        subst hq91
                        clear htv91 hbv91
                        refine dk_iload_n (pc' := 117) hE dX11_fits_116 rfl rfl rfl ?_
                        refine dk_icmp_ge (tgt := 172) (pc' := 120) hE dX11_fits_117 (by decide) rfl (fun hc92 => ?_) (fun hc92 => ?_)
                        · skip
                          refine dk_aload_n (pc' := 173) hE dX11_fits_172 rfl rfl rfl ?_
                          refine gf_11_76 (pc' := 176) (w := 187) hE fl_X11_152 dX11_fits_173 is_141 rfl rfl ?_
                          refine dk_iload_n (pc' := 177) hE dX11_fits_176 rfl rfl rfl ?_
                          refine ga_115 (pc' := 178) hE dX11_fits_177 is_187 (by omega) rfl (fun v93 hv93 htv93 hbv93 => ?_)
                          have hq93 : h = v93 := (show v93 = h by rw [hv93, hv91]).symm
                          subst hq93
                          clear htv93 hbv93
                          refine dk_iload_n (pc' := 179) hE dX11_fits_178 rfl rfl rfl ?_
                          refine dk_icmp_ne (tgt := 188) (pc' := 182) hE dX11_fits_179 (by decide) rfl (fun hc94 => ?_) (fun hc94 => ?_)
                          · skip
                            refine dk_aload_n (pc' := 189) hE dX11_fits_188 rfl rfl rfl ?_
                            refine gf_11_77 (pc' := 192) (w := 188) hE fl_X11_155 dX11_fits_189 is_141 rfl rfl ?_
                            refine dk_aload_n (pc' := 193) hE dX11_fits_192 rfl rfl rfl ?_
                            refine gf_11_76 (pc' := 196) (w := 187) hE fl_X11_152 dX11_fits_193 is_141 rfl rfl ?_
                            refine dk_iload_n (pc' := 197) hE dX11_fits_196 rfl rfl rfl ?_
                            refine ga_115 (pc' := 198) hE dX11_fits_197 is_187 (by omega) rfl (fun v95 hv95 htv95 hbv95 => ?_)
                            have hq95 : h = v95 := (show v95 = h by rw [hv95, hv93]).symm
                            subst hq95
                            clear htv95 hbv95
                            refine dk_dup2 (pc' := 199) hE dX11_fits_198 (show (0 : Nat) ≠ 3 by decide) (show (4 : Nat) ≠ 3 by decide) rfl ?_
                            refine ga_116 (pc' := 200) hE dX11_fits_199 is_188 (by omega) rfl (fun v96 hv96 htv96 hbv96 => ?_)
                            refine dk_iconst (pc' := 201) hE dX11_fits_200 (by decide) rfl ?_
                            refine dk_iaddW (pc' := 202) hE dX11_fits_201 rfl (fun v97 hv97 _ => ?_)
                            refine pa_116 (pc' := 203) hE dX11_fits_202 is_188 (by omega) trivial rfl (fun σ98 eσ98 => ?_)
                            refine dk_aload_n (pc' := 204) hE dX11_fits_203 rfl rfl rfl ?_
                            refine gf_11_78 (pc' := 207) (w := 189) hE fl_X11_158 dX11_fits_204 is_141 rfl rfl ?_
                            refine dk_aload_n (pc' := 208) hE dX11_fits_207 rfl rfl rfl ?_
                            refine gf_11_76 (pc' := 211) (w := 187) hE fl_X11_152 dX11_fits_208 is_141 rfl rfl ?_
                            refine dk_iload_n (pc' := 212) hE dX11_fits_211 rfl rfl rfl ?_
                            refine ga_115 (pc' := 213) hE dX11_fits_212 is_187 (by omega) rfl (fun v99 hv99 htv99 hbv99 => ?_)
                            have hq99 : h = v99 := (show v99 = h by rw [hv99, eσ98, dk_up_n (show ¬ (187 = 188 ∧ n = h) by omega), hv95]).symm
                            subst hq99
                            clear htv99 hbv99
                            refine dk_dup2 (pc' := 214) hE dX11_fits_213 (show (0 : Nat) ≠ 3 by decide) (show (4 : Nat) ≠ 3 by decide) rfl ?_
                            refine ga_117 (pc' := 215) hE dX11_fits_214 is_189 (by omega) rfl (fun v100 hv100 htv100 hbv100 => ?_)
                            refine dk_aload_n (pc' := 216) hE dX11_fits_215 rfl rfl rfl ?_
                            refine gf_11_75 (pc' := 219) (w := 186) hE fl_X11_149 dX11_fits_216 is_141 rfl rfl ?_
                            refine dk_iload_n (pc' := 220) hE dX11_fits_219 rfl rfl rfl ?_
                            refine ga_114 (pc' := 221) hE dX11_fits_220 is_186 (by omega) rfl (fun v101 hv101 htv101 hbv101 => ?_)
                            have hq101 : v85 = v101 := (show v101 = v85 by rw [hv101, eσ98, dk_up_n (show ¬ (186 = 188 ∧ n = h) by omega), hF110 186 n (by omega), eσ90, dk_up_n (show ¬ (186 = 187 ∧ n = n) by omega), eσ87, dk_up_n (show ¬ (186 = 189 ∧ n = H) by omega), hv85]).symm
                            subst hq101
                            clear htv101 hbv101
                            refine dk_iaddW (pc' := 222) hE dX11_fits_221 rfl (fun v102 hv102 _ => ?_)
                            refine pa_117 (pc' := 223) hE dX11_fits_222 is_189 (by omega) trivial rfl (fun σ103 eσ103 => ?_)
                            obtain ⟨v104, hv104⟩ : ∃ z : Int, z = n + 1 := ⟨_, rfl⟩
                            refine dk_iinc (pc' := 226) (ls' := [(4, 141), (0, a), (0, v104)]) hE dX11_fits_223 rfl hv104.symm (by omega) rfl (by decide) rfl ?_
                            refine dk_iload_n (pc' := 227) hE dX11_fits_226 rfl rfl rfl ?_
                            refine dk_aload_n (pc' := 228) hE dX11_fits_227 rfl rfl rfl ?_
                            refine gf_11_79 (pc' := 231) hE fl_X11_278 dX11_fits_228 is_141 rfl (fun v105 hv105 htv105 hbv105 => ?_)
                            have hq105 : R = v105 := (show v105 = R by rw [hv105, eσ103, dk_up_n (show ¬ (141 = 189 ∧ 79 = h) by omega), eσ98, dk_up_n (show ¬ (141 = 188 ∧ 79 = h) by omega), hF110 141 79 (by omega), eσ90, dk_up_n (show ¬ (141 = 187 ∧ 79 = n) by omega), eσ87, dk_up_n (show ¬ (141 = 189 ∧ 79 = H) by omega), eσ82, dk_up_n (show ¬ (141 = 188 ∧ 79 = H) by omega), hv6]).symm
                            subst hq105
                            clear htv105 hbv105
                            refine dk_icmp_ge (tgt := 44) (pc' := 234) hE dX11_fits_231 (by decide) rfl (fun hc106 => ?_) (fun hc106 => ?_)
                            · skip
                              exact ih44 v104 (σ103 187 v104) σ103 (by first | (have h_ := (FT_fwd (h := h) (σ' := σ103) hFT (by omega) (by omega) (by omega) (fun j_ a_ b_ => by rw [eσ103, dk_up_n (show ¬ (187 = 189 ∧ j_ = h) by omega), eσ98, dk_up_n (show ¬ (187 = 188 ∧ j_ = h) by omega), hF110 187 j_ (by omega), eσ90, dk_up_n (show ¬ (187 = 187 ∧ j_ = n) by omega), eσ87, dk_up_n (show ¬ (187 = 189 ∧ j_ = H) by omega), eσ82, dk_up_n (show ¬ (187 = 188 ∧ j_ = H) by omega)]) (by rw [eσ103, dk_up_n (show ¬ (187 = 189 ∧ n = h) by omega), eσ98, dk_up_n (show ¬ (187 = 188 ∧ n = h) by omega)]; exact hh.symm) (fun x_ => by first | (rw [show n + 1 = v104 by omega, eσ103, dk_up_s]) | (exfalso; omega))).2; rw [show v104 = n + 1 by omega]; omega) | (have h_ := (FT_back (σ' := σ103) hFT (by omega) (by omega) (by omega) (fun j_ a_ b_ => by rw [eσ103, dk_up_n (show ¬ (187 = 189 ∧ j_ = h) by omega), eσ98, dk_up_n (show ¬ (187 = 188 ∧ j_ = h) by omega), hF110 187 j_ (by omega), eσ90, dk_up_n (show ¬ (187 = 187 ∧ j_ = n) by omega), eσ87, dk_up_n (show ¬ (187 = 189 ∧ j_ = H) by omega), eσ82, dk_up_n (show ¬ (187 = 188 ∧ j_ = H) by omega)])).2; rw [show v104 = n - 1 by omega]; omega)) (fun k_ j_ h_ => by rw [eσ103, dk_up_n (show ¬ (k_ = 189 ∧ j_ = h) from fun q_ => h_ (dk_wr (lo := 187) (hi := 189) q_.1 (by decide))), eσ98, dk_up_n (show ¬ (k_ = 188 ∧ j_ = h) from fun q_ => h_ (dk_wr (lo := 187) (hi := 189) q_.1 (by decide))), hF110 k_ j_ (fun w_ => h_ (dk_wr (lo := 187) (hi := 189) w_.1 (by decide))), eσ90, dk_up_n (show ¬ (k_ = 187 ∧ j_ = n) from fun q_ => h_ (dk_wr (lo := 187) (hi := 189) q_.1 (by decide))), eσ87, dk_up_n (show ¬ (k_ = 189 ∧ j_ = H) from fun q_ => h_ (dk_wr (lo := 187) (hi := 189) q_.1 (by decide))), eσ82, dk_up_n (show ¬ (k_ = 188 ∧ j_ = H) from fun q_ => h_ (dk_wr (lo := 187) (hi := 189) q_.1 (by decide))), hF44 k_ j_ (fun w_ => h_ (w_))]) (rfl) (by first | exact ⟨by omega, by omega, fun i_ x_ y_ => by omega, fun x_ y_ => by first | (rw [eσ103, dk_up_s]; omega) | (exfalso; omega)⟩ | exact (show v104 = n + 1 by omega) ▸ (FT_fwd (h := h) (σ' := σ103) hFT (by omega) (by omega) (by omega) (fun j_ a_ b_ => by rw [eσ103, dk_up_n (show ¬ (187 = 189 ∧ j_ = h) by omega), eσ98, dk_up_n (show ¬ (187 = 188 ∧ j_ = h) by omega), hF110 187 j_ (by omega), eσ90, dk_up_n (show ¬ (187 = 187 ∧ j_ = n) by omega), eσ87, dk_up_n (show ¬ (187 = 189 ∧ j_ = H) by omega), eσ82, dk_up_n (show ¬ (187 = 188 ∧ j_ = H) by omega)]) (by rw [eσ103, dk_up_n (show ¬ (187 = 189 ∧ n = h) by omega), eσ98, dk_up_n (show ¬ (187 = 188 ∧ n = h) by omega)]; exact hh.symm) (fun x_ => by first | (rw [show n + 1 = v104 by omega, eσ103, dk_up_s]) | (exfalso; omega))).1 | exact (show v104 = n - 1 by omega) ▸ (FT_back (σ' := σ103) hFT (by omega) (by omega) (by omega) (fun j_ a_ b_ => by rw [eσ103, dk_up_n (show ¬ (187 = 189 ∧ j_ = h) by omega), eσ98, dk_up_n (show ¬ (187 = 188 ∧ j_ = h) by omega), hF110 187 j_ (by omega), eσ90, dk_up_n (show ¬ (187 = 187 ∧ j_ = n) by omega), eσ87, dk_up_n (show ¬ (187 = 189 ∧ j_ = H) by omega), eσ82, dk_up_n (show ¬ (187 = 188 ∧ j_ = H) by omega)])).1) (by first | exact (fun e_ => ⟨by omega, fun x_ => by first | (rw [eσ103, dk_up_s]) | (exfalso; omega), fun j_ x_ y_ => by first | exact hz j_ (by omega) (by omega) | (rw [eσ103, dk_up_n (by omega), dk_up_n (by omega)]; exact hz j_ (by omega) (by omega))⟩) | exact (fun e_ => by have t_ := hTR e_; have u_ := t_.2.1 (by omega); have w_ := ht e_; refine ⟨by omega, fun x_ => by first | (rw [eσ103, dk_up_s]) | (exfalso; omega), fun j_ x_ y_ => ⟨by rw [eσ103, dk_up_n (show ¬ (188 = 189 ∧ j_ = h) by omega), eσ98, dk_up_n (show ¬ (188 = 188 ∧ j_ = h) by omega), hF110 188 j_ (by omega), eσ90, dk_up_n (show ¬ (188 = 187 ∧ j_ = n) by omega), eσ87, dk_up_n (show ¬ (188 = 189 ∧ j_ = H) by omega), eσ82, dk_up_n (show ¬ (188 = 188 ∧ j_ = H) by omega)]; exact (t_.2.2 j_ (by omega) y_).1, by rw [eσ103, dk_up_n (show ¬ (189 = 189 ∧ j_ = h) by omega), eσ98, dk_up_n (show ¬ (189 = 188 ∧ j_ = h) by omega), hF110 189 j_ (by omega), eσ90, dk_up_n (show ¬ (189 = 187 ∧ j_ = n) by omega), eσ87, dk_up_n (show ¬ (189 = 189 ∧ j_ = H) by omega), eσ82, dk_up_n (show ¬ (189 = 188 ∧ j_ = H) by omega)]; exact (t_.2.2 j_ (by omega) y_).2⟩⟩) | exact (fun e_ => by have t_ := hTR e_; have u_ := t_.2.1 (by omega); exfalso; omega) | exact (fun e_ => by have w_ := ht e_; exfalso; omega))
                            · skip
                              refine dk_aload_n (pc' := 235) hE dX11_fits_234 rfl rfl rfl ?_
                              refine gf_11_76 (pc' := 238) (w := 187) hE fl_X11_152 dX11_fits_235 is_141 rfl rfl ?_
                              refine dk_iload_n (pc' := 239) hE dX11_fits_238 rfl rfl rfl ?_
                              refine dk_iconst (pc' := 240) hE dX11_fits_239 (by decide) rfl ?_
                              refine pa_115 (pc' := 241) hE dX11_fits_240 is_187 (by omega) (by omega) rfl (fun σ109 eσ109 => ?_)
                              refine dk_goto (tgt := 44) hE dX11_fits_241 (by decide) ?_
                              exact ih44 v104 (σ109 187 v104) σ109 (by first | (have h_ := (FT_fwd (h := h) (σ' := σ109) hFT (by omega) (by omega) (by omega) (fun j_ a_ b_ => by rw [eσ109, dk_up_n (show ¬ (187 = 187 ∧ j_ = v104) by omega), eσ103, dk_up_n (show ¬ (187 = 189 ∧ j_ = h) by omega), eσ98, dk_up_n (show ¬ (187 = 188 ∧ j_ = h) by omega), hF110 187 j_ (by omega), eσ90, dk_up_n (show ¬ (187 = 187 ∧ j_ = n) by omega), eσ87, dk_up_n (show ¬ (187 = 189 ∧ j_ = H) by omega), eσ82, dk_up_n (show ¬ (187 = 188 ∧ j_ = H) by omega)]) (by rw [eσ109, dk_up_n (show ¬ (187 = 187 ∧ n = v104) by omega), eσ103, dk_up_n (show ¬ (187 = 189 ∧ n = h) by omega), eσ98, dk_up_n (show ¬ (187 = 188 ∧ n = h) by omega)]; exact hh.symm) (fun x_ => by first | (rw [show n + 1 = v104 by omega, eσ109, dk_up_s]) | (exfalso; omega))).2; rw [show v104 = n + 1 by omega]; omega) | (have h_ := (FT_back (σ' := σ109) hFT (by omega) (by omega) (by omega) (fun j_ a_ b_ => by rw [eσ109, dk_up_n (show ¬ (187 = 187 ∧ j_ = v104) by omega), eσ103, dk_up_n (show ¬ (187 = 189 ∧ j_ = h) by omega), eσ98, dk_up_n (show ¬ (187 = 188 ∧ j_ = h) by omega), hF110 187 j_ (by omega), eσ90, dk_up_n (show ¬ (187 = 187 ∧ j_ = n) by omega), eσ87, dk_up_n (show ¬ (187 = 189 ∧ j_ = H) by omega), eσ82, dk_up_n (show ¬ (187 = 188 ∧ j_ = H) by omega)])).2; rw [show v104 = n - 1 by omega]; omega)) (fun k_ j_ h_ => by rw [eσ109, dk_up_n (show ¬ (k_ = 187 ∧ j_ = v104) from fun q_ => h_ (dk_wr (lo := 187) (hi := 189) q_.1 (by decide))), eσ103, dk_up_n (show ¬ (k_ = 189 ∧ j_ = h) from fun q_ => h_ (dk_wr (lo := 187) (hi := 189) q_.1 (by decide))), eσ98, dk_up_n (show ¬ (k_ = 188 ∧ j_ = h) from fun q_ => h_ (dk_wr (lo := 187) (hi := 189) q_.1 (by decide))), hF110 k_ j_ (fun w_ => h_ (dk_wr (lo := 187) (hi := 189) w_.1 (by decide))), eσ90, dk_up_n (show ¬ (k_ = 187 ∧ j_ = n) from fun q_ => h_ (dk_wr (lo := 187) (hi := 189) q_.1 (by decide))), eσ87, dk_up_n (show ¬ (k_ = 189 ∧ j_ = H) from fun q_ => h_ (dk_wr (lo := 187) (hi := 189) q_.1 (by decide))), eσ82, dk_up_n (show ¬ (k_ = 188 ∧ j_ = H) from fun q_ => h_ (dk_wr (lo := 187) (hi := 189) q_.1 (by decide))), hF44 k_ j_ (fun w_ => h_ (w_))]) (rfl) (by first | exact ⟨by omega, by omega, fun i_ x_ y_ => by omega, fun x_ y_ => by first | (rw [eσ109, dk_up_s]; omega) | (exfalso; omega)⟩ | exact (show v104 = n + 1 by omega) ▸ (FT_fwd (h := h) (σ' := σ109) hFT (by omega) (by omega) (by omega) (fun j_ a_ b_ => by rw [eσ109, dk_up_n (show ¬ (187 = 187 ∧ j_ = v104) by omega), eσ103, dk_up_n (show ¬ (187 = 189 ∧ j_ = h) by omega), eσ98, dk_up_n (show ¬ (187 = 188 ∧ j_ = h) by omega), hF110 187 j_ (by omega), eσ90, dk_up_n (show ¬ (187 = 187 ∧ j_ = n) by omega), eσ87, dk_up_n (show ¬ (187 = 189 ∧ j_ = H) by omega), eσ82, dk_up_n (show ¬ (187 = 188 ∧ j_ = H) by omega)]) (by rw [eσ109, dk_up_n (show ¬ (187 = 187 ∧ n = v104) by omega), eσ103, dk_up_n (show ¬ (187 = 189 ∧ n = h) by omega), eσ98, dk_up_n (show ¬ (187 = 188 ∧ n = h) by omega)]; exact hh.symm) (fun x_ => by first | (rw [show n + 1 = v104 by omega, eσ109, dk_up_s]) | (exfalso; omega))).1 | exact (show v104 = n - 1 by omega) ▸ (FT_back (σ' := σ109) hFT (by omega) (by omega) (by omega) (fun j_ a_ b_ => by rw [eσ109, dk_up_n (show ¬ (187 = 187 ∧ j_ = v104) by omega), eσ103, dk_up_n (show ¬ (187 = 189 ∧ j_ = h) by omega), eσ98, dk_up_n (show ¬ (187 = 188 ∧ j_ = h) by omega), hF110 187 j_ (by omega), eσ90, dk_up_n (show ¬ (187 = 187 ∧ j_ = n) by omega), eσ87, dk_up_n (show ¬ (187 = 189 ∧ j_ = H) by omega), eσ82, dk_up_n (show ¬ (187 = 188 ∧ j_ = H) by omega)])).1) (by first | exact (fun e_ => ⟨by omega, fun x_ => by first | (rw [eσ109, dk_up_s]) | (exfalso; omega), fun j_ x_ y_ => by first | exact hz j_ (by omega) (by omega) | (rw [eσ109, dk_up_n (by omega), dk_up_n (by omega)]; exact hz j_ (by omega) (by omega))⟩) | exact (fun e_ => by have t_ := hTR e_; have u_ := t_.2.1 (by omega); have w_ := ht e_; refine ⟨by omega, fun x_ => by first | (rw [eσ109, dk_up_s]) | (exfalso; omega), fun j_ x_ y_ => ⟨by rw [eσ109, dk_up_n (show ¬ (188 = 187 ∧ j_ = v104) by omega), eσ103, dk_up_n (show ¬ (188 = 189 ∧ j_ = h) by omega), eσ98, dk_up_n (show ¬ (188 = 188 ∧ j_ = h) by omega), hF110 188 j_ (by omega), eσ90, dk_up_n (show ¬ (188 = 187 ∧ j_ = n) by omega), eσ87, dk_up_n (show ¬ (188 = 189 ∧ j_ = H) by omega), eσ82, dk_up_n (show ¬ (188 = 188 ∧ j_ = H) by omega)]; exact (t_.2.2 j_ (by omega) y_).1, by rw [eσ109, dk_up_n (show ¬ (189 = 187 ∧ j_ = v104) by omega), eσ103, dk_up_n (show ¬ (189 = 189 ∧ j_ = h) by omega), eσ98, dk_up_n (show ¬ (189 = 188 ∧ j_ = h) by omega), hF110 189 j_ (by omega), eσ90, dk_up_n (show ¬ (189 = 187 ∧ j_ = n) by omega), eσ87, dk_up_n (show ¬ (189 = 189 ∧ j_ = H) by omega), eσ82, dk_up_n (show ¬ (189 = 188 ∧ j_ = H) by omega)]; exact (t_.2.2 j_ (by omega) y_).2⟩⟩) | exact (fun e_ => by have t_ := hTR e_; have u_ := t_.2.1 (by omega); exfalso; omega) | exact (fun e_ => by have w_ := ht e_; exfalso; omega))
                          · skip
                            obtain ⟨v112, hv112⟩ : ∃ z : Int, z = n + (-1) := ⟨_, rfl⟩
                            refine dk_iinc (pc' := 185) (ls' := [(4, 141), (0, a), (0, v112)]) hE dX11_fits_182 rfl hv112.symm (by omega) rfl (by decide) rfl ?_
                            refine dk_goto (tgt := 44) hE dX11_fits_185 (by decide) ?_
                            exact ih44 v112 (σ110c 187 v112) σ110c (by first | (have h_ := (FT_fwd (h := h) (σ' := σ110c) hFT (by omega) (by omega) (by omega) (fun j_ a_ b_ => by rw [hF110 187 j_ (by omega), eσ90, dk_up_n (show ¬ (187 = 187 ∧ j_ = n) by omega), eσ87, dk_up_n (show ¬ (187 = 189 ∧ j_ = H) by omega), eσ82, dk_up_n (show ¬ (187 = 188 ∧ j_ = H) by omega)]) (by rw []; exact hh.symm) (fun x_ => by first | (rw [show n + 1 = v112 by omega, rfl, dk_up_s]) | (exfalso; omega))).2; rw [show v112 = n + 1 by omega]; omega) | (have h_ := (FT_back (σ' := σ110c) hFT (by omega) (by omega) (by omega) (fun j_ a_ b_ => by rw [hF110 187 j_ (by omega), eσ90, dk_up_n (show ¬ (187 = 187 ∧ j_ = n) by omega), eσ87, dk_up_n (show ¬ (187 = 189 ∧ j_ = H) by omega), eσ82, dk_up_n (show ¬ (187 = 188 ∧ j_ = H) by omega)])).2; rw [show v112 = n - 1 by omega]; omega)) (fun k_ j_ h_ => by rw [hF110 k_ j_ (fun w_ => h_ (dk_wr (lo := 187) (hi := 189) w_.1 (by decide))), eσ90, dk_up_n (show ¬ (k_ = 187 ∧ j_ = n) from fun q_ => h_ (dk_wr (lo := 187) (hi := 189) q_.1 (by decide))), eσ87, dk_up_n (show ¬ (k_ = 189 ∧ j_ = H) from fun q_ => h_ (dk_wr (lo := 187) (hi := 189) q_.1 (by decide))), eσ82, dk_up_n (show ¬ (k_ = 188 ∧ j_ = H) from fun q_ => h_ (dk_wr (lo := 187) (hi := 189) q_.1 (by decide))), hF44 k_ j_ (fun w_ => h_ (w_))]) (rfl) (by first | exact ⟨by omega, by omega, fun i_ x_ y_ => by omega, fun x_ y_ => by first | (rw [rfl, dk_up_s]; omega) | (exfalso; omega)⟩ | exact (show v112 = n + 1 by omega) ▸ (FT_fwd (h := h) (σ' := σ110c) hFT (by omega) (by omega) (by omega) (fun j_ a_ b_ => by rw [hF110 187 j_ (by omega), eσ90, dk_up_n (show ¬ (187 = 187 ∧ j_ = n) by omega), eσ87, dk_up_n (show ¬ (187 = 189 ∧ j_ = H) by omega), eσ82, dk_up_n (show ¬ (187 = 188 ∧ j_ = H) by omega)]) (by rw []; exact hh.symm) (fun x_ => by first | (rw [show n + 1 = v112 by omega, rfl, dk_up_s]) | (exfalso; omega))).1 | exact (show v112 = n - 1 by omega) ▸ (FT_back (σ' := σ110c) hFT (by omega) (by omega) (by omega) (fun j_ a_ b_ => by rw [hF110 187 j_ (by omega), eσ90, dk_up_n (show ¬ (187 = 187 ∧ j_ = n) by omega), eσ87, dk_up_n (show ¬ (187 = 189 ∧ j_ = H) by omega), eσ82, dk_up_n (show ¬ (187 = 188 ∧ j_ = H) by omega)])).1) (by first | exact (fun e_ => ⟨by omega, fun x_ => by first | (rw [rfl, dk_up_s]) | (exfalso; omega), fun j_ x_ y_ => by first | exact hz j_ (by omega) (by omega) | (rw [rfl, dk_up_n (by omega), dk_up_n (by omega)]; exact hz j_ (by omega) (by omega))⟩) | exact (fun e_ => by have t_ := hTR e_; have u_ := t_.2.1 (by omega); have w_ := ht e_; refine ⟨by omega, fun x_ => by first | (rw [rfl, dk_up_s]) | (exfalso; omega), fun j_ x_ y_ => ⟨by rw [hF110 188 j_ (by omega), eσ90, dk_up_n (show ¬ (188 = 187 ∧ j_ = n) by omega), eσ87, dk_up_n (show ¬ (188 = 189 ∧ j_ = H) by omega), eσ82, dk_up_n (show ¬ (188 = 188 ∧ j_ = H) by omega)]; exact (t_.2.2 j_ (by omega) y_).1, by rw [hF110 189 j_ (by omega), eσ90, dk_up_n (show ¬ (189 = 187 ∧ j_ = n) by omega), eσ87, dk_up_n (show ¬ (189 = 189 ∧ j_ = H) by omega), eσ82, dk_up_n (show ¬ (189 = 188 ∧ j_ = H) by omega)]; exact (t_.2.2 j_ (by omega) y_).2⟩⟩) | exact (fun e_ => by have t_ := hTR e_; have u_ := t_.2.1 (by omega); exfalso; omega) | exact (fun e_ => by have w_ := ht e_; exfalso; omega))
                        · skip
                          refine dk_aload_n (pc' := 121) hE dX11_fits_120 rfl rfl rfl ?_
                          refine gf_11_77 (pc' := 124) (w := 188) hE fl_X11_155 dX11_fits_121 is_141 rfl rfl ?_
                          refine dk_aload_n (pc' := 125) hE dX11_fits_124 rfl rfl rfl ?_
                          refine gf_11_76 (pc' := 128) (w := 187) hE fl_X11_152 dX11_fits_125 is_141 rfl rfl ?_
                          refine dk_iload_n (pc' := 129) hE dX11_fits_128 rfl rfl rfl ?_
                          refine ga_115 (pc' := 130) hE dX11_fits_129 is_187 (by omega) rfl (fun v115 hv115 htv115 hbv115 => ?_)
                          have hq115 : h = v115 := (show v115 = h by rw [hv115, hv91]).symm
                          subst hq115
                          clear htv115 hbv115
                          refine ga_116 (pc' := 131) hE dX11_fits_130 is_188 (by omega) rfl (fun v116 hv116 htv116 hbv116 => ?_)
                          have hq130 : R ≤ a → n ≤ h → v116 = 0 := fun e_ l_ => by have t_ := (hTR e_).2.2 h l_ (by omega); have u_ := (hTR e_).2.1 (by omega); rw [hv116, hF110 188 h (by omega), eσ90, dk_up_n (show ¬ (188 = 187 ∧ h = n) by omega), eσ87, dk_up_n (show ¬ (188 = 189 ∧ h = H) by omega), eσ82, dk_up_n (show ¬ (188 = 188 ∧ h = H) by omega)]; exact t_.1
                          refine dk_aload_n (pc' := 132) hE dX11_fits_131 rfl rfl rfl ?_
                          refine gf_11_80 (pc' := 135) hE fl_X11_161 dX11_fits_132 is_141 rfl (fun v117 hv117 htv117 hbv117 => ?_)
                          refine dk_icmp_eq (tgt := 159) (pc' := 138) hE dX11_fits_135 (by decide) rfl (fun hc118 => ?_) (fun hc118 => ?_)
                          · skip
                            refine dk_aload_n (pc' := 160) hE dX11_fits_159 rfl rfl rfl ?_
                            refine gf_11_76 (pc' := 163) (w := 187) hE fl_X11_152 dX11_fits_160 is_141 rfl rfl ?_
                            refine dk_iload_n (pc' := 164) hE dX11_fits_163 rfl rfl rfl ?_
                            refine dk_dup2 (pc' := 165) hE dX11_fits_164 (show (0 : Nat) ≠ 3 by decide) (show (4 : Nat) ≠ 3 by decide) rfl ?_
                            refine ga_115 (pc' := 166) hE dX11_fits_165 is_187 (by omega) rfl (fun v119 hv119 htv119 hbv119 => ?_)
                            have hq119 : h = v119 := (show v119 = h by rw [hv119, hv115]).symm
                            subst hq119
                            clear htv119 hbv119
                            refine dk_iconst (pc' := 167) hE dX11_fits_166 (by decide) rfl ?_
                            obtain ⟨v120, hv120⟩ : ∃ z : Int, z = h + 1 := ⟨_, rfl⟩
                            refine dk_iadd (pc' := 168) hE dX11_fits_167 hv120.symm (by omega) rfl ?_
                            refine pa_115 (pc' := 169) hE dX11_fits_168 is_187 (by omega) (by omega) rfl (fun σ121 eσ121 => ?_)
                            refine dk_goto (tgt := 110) hE dX11_fits_169 (by decide) ?_
                            have hz121_187_n : σ121 187 n = v120 := by rw [eσ121, dk_up_s]
                            exact ih110 (σ121 187 n) σ121 (by omega) (fun k_ j_ h_ => by rw [eσ121, dk_up_n (show ¬ (k_ = 187 ∧ j_ = n) from fun q_ => h_ (q_)), hF110 k_ j_ (fun w_ => h_ (w_))]) (rfl) (by omega) (fun e_ => by have t_ := hTR e_; have u_ := t_.2.1 (by omega); omega)
                          · skip
                            refine dk_aload_n (pc' := 139) hE dX11_fits_138 rfl rfl rfl ?_
                            refine gf_11_78 (pc' := 142) (w := 189) hE fl_X11_158 dX11_fits_139 is_141 rfl rfl ?_
                            refine dk_aload_n (pc' := 143) hE dX11_fits_142 rfl rfl rfl ?_
                            refine gf_11_76 (pc' := 146) (w := 187) hE fl_X11_152 dX11_fits_143 is_141 rfl rfl ?_
                            refine dk_iload_n (pc' := 147) hE dX11_fits_146 rfl rfl rfl ?_
                            refine ga_115 (pc' := 148) hE dX11_fits_147 is_187 (by omega) rfl (fun v123 hv123 htv123 hbv123 => ?_)
                            have hq123 : h = v123 := (show v123 = h by rw [hv123, hv115]).symm
                            subst hq123
                            clear htv123 hbv123
                            refine ga_117 (pc' := 149) hE dX11_fits_148 is_189 (by omega) rfl (fun v124 hv124 htv124 hbv124 => ?_)
                            have hq148 : R ≤ a → n ≤ h → v124 = 0 := fun e_ l_ => by have t_ := (hTR e_).2.2 h l_ (by omega); have u_ := (hTR e_).2.1 (by omega); rw [hv124, hF110 189 h (by omega), eσ90, dk_up_n (show ¬ (189 = 187 ∧ h = n) by omega), eσ87, dk_up_n (show ¬ (189 = 189 ∧ h = H) by omega), eσ82, dk_up_n (show ¬ (189 = 188 ∧ h = H) by omega)]; exact t_.2
                            refine dk_aload_n (pc' := 150) hE dX11_fits_149 rfl rfl rfl ?_
                            refine gf_11_75 (pc' := 153) (w := 186) hE fl_X11_149 dX11_fits_150 is_141 rfl rfl ?_
                            refine dk_iload_n (pc' := 154) hE dX11_fits_153 rfl rfl rfl ?_
                            refine ga_114 (pc' := 155) hE dX11_fits_154 is_186 (by omega) rfl (fun v125 hv125 htv125 hbv125 => ?_)
                            have hq125 : v85 = v125 := (show v125 = v85 by rw [hv125, hF110 186 n (by omega), eσ90, dk_up_n (show ¬ (186 = 187 ∧ n = n) by omega), eσ87, dk_up_n (show ¬ (186 = 189 ∧ n = H) by omega), hv85]).symm
                            subst hq125
                            clear htv125 hbv125
                            refine dk_iand (pc' := 156) hE dX11_fits_155 rfl (fun v126 hv126 ev126 => ?_)
                            have hq155 : v124 = 0 → v126 = 0 := fun e_ => by rw [ev126, e_]; exact dk_and0
                            refine dk_if_eq (tgt := 172) (pc' := 159) hE dX11_fits_156 (by decide) rfl (fun hc127 => ?_) (fun hc127 => ?_)
                            · skip
                              refine dk_aload_n (pc' := 173) hE dX11_fits_172 rfl rfl rfl ?_
                              refine gf_11_76 (pc' := 176) (w := 187) hE fl_X11_152 dX11_fits_173 is_141 rfl rfl ?_
                              refine dk_iload_n (pc' := 177) hE dX11_fits_176 rfl rfl rfl ?_
                              refine ga_115 (pc' := 178) hE dX11_fits_177 is_187 (by omega) rfl (fun v128 hv128 htv128 hbv128 => ?_)
                              have hq128 : h = v128 := (show v128 = h by rw [hv128, hv123]).symm
                              subst hq128
                              clear htv128 hbv128
                              refine dk_iload_n (pc' := 179) hE dX11_fits_178 rfl rfl rfl ?_
                              refine dk_icmp_ne (tgt := 188) (pc' := 182) hE dX11_fits_179 (by decide) rfl (fun hc129 => ?_) (fun hc129 => ?_)
                              · skip
                                refine dk_aload_n (pc' := 189) hE dX11_fits_188 rfl rfl rfl ?_
                                refine gf_11_77 (pc' := 192) (w := 188) hE fl_X11_155 dX11_fits_189 is_141 rfl rfl ?_
                                refine dk_aload_n (pc' := 193) hE dX11_fits_192 rfl rfl rfl ?_
                                refine gf_11_76 (pc' := 196) (w := 187) hE fl_X11_152 dX11_fits_193 is_141 rfl rfl ?_
                                refine dk_iload_n (pc' := 197) hE dX11_fits_196 rfl rfl rfl ?_
                                refine ga_115 (pc' := 198) hE dX11_fits_197 is_187 (by omega) rfl (fun v130 hv130 htv130 hbv130 => ?_)
                                have hq130 : h = v130 := (show v130 = h by rw [hv130, hv128]).symm
                                subst hq130
                                clear htv130 hbv130
                                refine dk_dup2 (pc' := 199) hE dX11_fits_198 (show (0 : Nat) ≠ 3 by decide) (show (4 : Nat) ≠ 3 by decide) rfl ?_
                                refine ga_116 (pc' := 200) hE dX11_fits_199 is_188 (by omega) rfl (fun v131 hv131 htv131 hbv131 => ?_)
                                have hq131 : v116 = v131 := (show v131 = v116 by rw [hv131, hv116]).symm
                                subst hq131
                                clear htv131 hbv131
                                refine dk_iconst (pc' := 201) hE dX11_fits_200 (by decide) rfl ?_
                                refine dk_iaddW (pc' := 202) hE dX11_fits_201 rfl (fun v132 hv132 _ => ?_)
                                refine pa_116 (pc' := 203) hE dX11_fits_202 is_188 (by omega) trivial rfl (fun σ133 eσ133 => ?_)
                                refine dk_aload_n (pc' := 204) hE dX11_fits_203 rfl rfl rfl ?_
                                refine gf_11_78 (pc' := 207) (w := 189) hE fl_X11_158 dX11_fits_204 is_141 rfl rfl ?_
                                refine dk_aload_n (pc' := 208) hE dX11_fits_207 rfl rfl rfl ?_
                                refine gf_11_76 (pc' := 211) (w := 187) hE fl_X11_152 dX11_fits_208 is_141 rfl rfl ?_
                                refine dk_iload_n (pc' := 212) hE dX11_fits_211 rfl rfl rfl ?_
                                refine ga_115 (pc' := 213) hE dX11_fits_212 is_187 (by omega) rfl (fun v134 hv134 htv134 hbv134 => ?_)
                                have hq134 : h = v134 := (show v134 = h by rw [hv134, eσ133, dk_up_n (show ¬ (187 = 188 ∧ n = h) by omega), hv130]).symm
                                subst hq134
                                clear htv134 hbv134
                                refine dk_dup2 (pc' := 214) hE dX11_fits_213 (show (0 : Nat) ≠ 3 by decide) (show (4 : Nat) ≠ 3 by decide) rfl ?_
                                refine ga_117 (pc' := 215) hE dX11_fits_214 is_189 (by omega) rfl (fun v135 hv135 htv135 hbv135 => ?_)
                                have hq135 : v124 = v135 := (show v135 = v124 by rw [hv135, eσ133, dk_up_n (show ¬ (189 = 188 ∧ h = h) by omega), hv124]).symm
                                subst hq135
                                clear htv135 hbv135
                                refine dk_aload_n (pc' := 216) hE dX11_fits_215 rfl rfl rfl ?_
                                refine gf_11_75 (pc' := 219) (w := 186) hE fl_X11_149 dX11_fits_216 is_141 rfl rfl ?_
                                refine dk_iload_n (pc' := 220) hE dX11_fits_219 rfl rfl rfl ?_
                                refine ga_114 (pc' := 221) hE dX11_fits_220 is_186 (by omega) rfl (fun v136 hv136 htv136 hbv136 => ?_)
                                have hq136 : v85 = v136 := (show v136 = v85 by rw [hv136, eσ133, dk_up_n (show ¬ (186 = 188 ∧ n = h) by omega), hv125]).symm
                                subst hq136
                                clear htv136 hbv136
                                refine dk_iaddW (pc' := 222) hE dX11_fits_221 rfl (fun v137 hv137 _ => ?_)
                                refine pa_117 (pc' := 223) hE dX11_fits_222 is_189 (by omega) trivial rfl (fun σ138 eσ138 => ?_)
                                obtain ⟨v139, hv139⟩ : ∃ z : Int, z = n + 1 := ⟨_, rfl⟩
                                refine dk_iinc (pc' := 226) (ls' := [(4, 141), (0, a), (0, v139)]) hE dX11_fits_223 rfl hv139.symm (by omega) rfl (by decide) rfl ?_
                                refine dk_iload_n (pc' := 227) hE dX11_fits_226 rfl rfl rfl ?_
                                refine dk_aload_n (pc' := 228) hE dX11_fits_227 rfl rfl rfl ?_
                                refine gf_11_79 (pc' := 231) hE fl_X11_278 dX11_fits_228 is_141 rfl (fun v140 hv140 htv140 hbv140 => ?_)
                                have hq140 : R = v140 := (show v140 = R by rw [hv140, eσ138, dk_up_n (show ¬ (141 = 189 ∧ 79 = h) by omega), eσ133, dk_up_n (show ¬ (141 = 188 ∧ 79 = h) by omega), hF110 141 79 (by omega), eσ90, dk_up_n (show ¬ (141 = 187 ∧ 79 = n) by omega), eσ87, dk_up_n (show ¬ (141 = 189 ∧ 79 = H) by omega), eσ82, dk_up_n (show ¬ (141 = 188 ∧ 79 = H) by omega), hv6]).symm
                                subst hq140
                                clear htv140 hbv140
                                refine dk_icmp_ge (tgt := 44) (pc' := 234) hE dX11_fits_231 (by decide) rfl (fun hc141 => ?_) (fun hc141 => ?_)
                                · skip
                                  exact ih44 v139 (σ138 187 v139) σ138 (by first | (have h_ := (FT_fwd (h := h) (σ' := σ138) hFT (by omega) (by omega) (by omega) (fun j_ a_ b_ => by rw [eσ138, dk_up_n (show ¬ (187 = 189 ∧ j_ = h) by omega), eσ133, dk_up_n (show ¬ (187 = 188 ∧ j_ = h) by omega), hF110 187 j_ (by omega), eσ90, dk_up_n (show ¬ (187 = 187 ∧ j_ = n) by omega), eσ87, dk_up_n (show ¬ (187 = 189 ∧ j_ = H) by omega), eσ82, dk_up_n (show ¬ (187 = 188 ∧ j_ = H) by omega)]) (by rw [eσ138, dk_up_n (show ¬ (187 = 189 ∧ n = h) by omega), eσ133, dk_up_n (show ¬ (187 = 188 ∧ n = h) by omega)]; exact hh.symm) (fun x_ => by first | (rw [show n + 1 = v139 by omega, eσ138, dk_up_s]) | (exfalso; omega))).2; rw [show v139 = n + 1 by omega]; omega) | (have h_ := (FT_back (σ' := σ138) hFT (by omega) (by omega) (by omega) (fun j_ a_ b_ => by rw [eσ138, dk_up_n (show ¬ (187 = 189 ∧ j_ = h) by omega), eσ133, dk_up_n (show ¬ (187 = 188 ∧ j_ = h) by omega), hF110 187 j_ (by omega), eσ90, dk_up_n (show ¬ (187 = 187 ∧ j_ = n) by omega), eσ87, dk_up_n (show ¬ (187 = 189 ∧ j_ = H) by omega), eσ82, dk_up_n (show ¬ (187 = 188 ∧ j_ = H) by omega)])).2; rw [show v139 = n - 1 by omega]; omega)) (fun k_ j_ h_ => by rw [eσ138, dk_up_n (show ¬ (k_ = 189 ∧ j_ = h) from fun q_ => h_ (dk_wr (lo := 187) (hi := 189) q_.1 (by decide))), eσ133, dk_up_n (show ¬ (k_ = 188 ∧ j_ = h) from fun q_ => h_ (dk_wr (lo := 187) (hi := 189) q_.1 (by decide))), hF110 k_ j_ (fun w_ => h_ (dk_wr (lo := 187) (hi := 189) w_.1 (by decide))), eσ90, dk_up_n (show ¬ (k_ = 187 ∧ j_ = n) from fun q_ => h_ (dk_wr (lo := 187) (hi := 189) q_.1 (by decide))), eσ87, dk_up_n (show ¬ (k_ = 189 ∧ j_ = H) from fun q_ => h_ (dk_wr (lo := 187) (hi := 189) q_.1 (by decide))), eσ82, dk_up_n (show ¬ (k_ = 188 ∧ j_ = H) from fun q_ => h_ (dk_wr (lo := 187) (hi := 189) q_.1 (by decide))), hF44 k_ j_ (fun w_ => h_ (w_))]) (rfl) (by first | exact ⟨by omega, by omega, fun i_ x_ y_ => by omega, fun x_ y_ => by first | (rw [eσ138, dk_up_s]; omega) | (exfalso; omega)⟩ | exact (show v139 = n + 1 by omega) ▸ (FT_fwd (h := h) (σ' := σ138) hFT (by omega) (by omega) (by omega) (fun j_ a_ b_ => by rw [eσ138, dk_up_n (show ¬ (187 = 189 ∧ j_ = h) by omega), eσ133, dk_up_n (show ¬ (187 = 188 ∧ j_ = h) by omega), hF110 187 j_ (by omega), eσ90, dk_up_n (show ¬ (187 = 187 ∧ j_ = n) by omega), eσ87, dk_up_n (show ¬ (187 = 189 ∧ j_ = H) by omega), eσ82, dk_up_n (show ¬ (187 = 188 ∧ j_ = H) by omega)]) (by rw [eσ138, dk_up_n (show ¬ (187 = 189 ∧ n = h) by omega), eσ133, dk_up_n (show ¬ (187 = 188 ∧ n = h) by omega)]; exact hh.symm) (fun x_ => by first | (rw [show n + 1 = v139 by omega, eσ138, dk_up_s]) | (exfalso; omega))).1 | exact (show v139 = n - 1 by omega) ▸ (FT_back (σ' := σ138) hFT (by omega) (by omega) (by omega) (fun j_ a_ b_ => by rw [eσ138, dk_up_n (show ¬ (187 = 189 ∧ j_ = h) by omega), eσ133, dk_up_n (show ¬ (187 = 188 ∧ j_ = h) by omega), hF110 187 j_ (by omega), eσ90, dk_up_n (show ¬ (187 = 187 ∧ j_ = n) by omega), eσ87, dk_up_n (show ¬ (187 = 189 ∧ j_ = H) by omega), eσ82, dk_up_n (show ¬ (187 = 188 ∧ j_ = H) by omega)])).1) (by first | exact (fun e_ => ⟨by omega, fun x_ => by first | (rw [eσ138, dk_up_s]) | (exfalso; omega), fun j_ x_ y_ => by first | exact hz j_ (by omega) (by omega) | (rw [eσ138, dk_up_n (by omega), dk_up_n (by omega)]; exact hz j_ (by omega) (by omega))⟩) | exact (fun e_ => by have t_ := hTR e_; have u_ := t_.2.1 (by omega); have w_ := ht e_; refine ⟨by omega, fun x_ => by first | (rw [eσ138, dk_up_s]) | (exfalso; omega), fun j_ x_ y_ => ⟨by rw [eσ138, dk_up_n (show ¬ (188 = 189 ∧ j_ = h) by omega), eσ133, dk_up_n (show ¬ (188 = 188 ∧ j_ = h) by omega), hF110 188 j_ (by omega), eσ90, dk_up_n (show ¬ (188 = 187 ∧ j_ = n) by omega), eσ87, dk_up_n (show ¬ (188 = 189 ∧ j_ = H) by omega), eσ82, dk_up_n (show ¬ (188 = 188 ∧ j_ = H) by omega)]; exact (t_.2.2 j_ (by omega) y_).1, by rw [eσ138, dk_up_n (show ¬ (189 = 189 ∧ j_ = h) by omega), eσ133, dk_up_n (show ¬ (189 = 188 ∧ j_ = h) by omega), hF110 189 j_ (by omega), eσ90, dk_up_n (show ¬ (189 = 187 ∧ j_ = n) by omega), eσ87, dk_up_n (show ¬ (189 = 189 ∧ j_ = H) by omega), eσ82, dk_up_n (show ¬ (189 = 188 ∧ j_ = H) by omega)]; exact (t_.2.2 j_ (by omega) y_).2⟩⟩) | exact (fun e_ => by have t_ := hTR e_; have u_ := t_.2.1 (by omega); exfalso; omega) | exact (fun e_ => by have w_ := ht e_; exfalso; omega))
                                · skip
                                  refine dk_aload_n (pc' := 235) hE dX11_fits_234 rfl rfl rfl ?_
                                  refine gf_11_76 (pc' := 238) (w := 187) hE fl_X11_152 dX11_fits_235 is_141 rfl rfl ?_
                                  refine dk_iload_n (pc' := 239) hE dX11_fits_238 rfl rfl rfl ?_
                                  refine dk_iconst (pc' := 240) hE dX11_fits_239 (by decide) rfl ?_
                                  refine pa_115 (pc' := 241) hE dX11_fits_240 is_187 (by omega) (by omega) rfl (fun σ144 eσ144 => ?_)
                                  refine dk_goto (tgt := 44) hE dX11_fits_241 (by decide) ?_
                                  exact ih44 v139 (σ144 187 v139) σ144 (by first | (have h_ := (FT_fwd (h := h) (σ' := σ144) hFT (by omega) (by omega) (by omega) (fun j_ a_ b_ => by rw [eσ144, dk_up_n (show ¬ (187 = 187 ∧ j_ = v139) by omega), eσ138, dk_up_n (show ¬ (187 = 189 ∧ j_ = h) by omega), eσ133, dk_up_n (show ¬ (187 = 188 ∧ j_ = h) by omega), hF110 187 j_ (by omega), eσ90, dk_up_n (show ¬ (187 = 187 ∧ j_ = n) by omega), eσ87, dk_up_n (show ¬ (187 = 189 ∧ j_ = H) by omega), eσ82, dk_up_n (show ¬ (187 = 188 ∧ j_ = H) by omega)]) (by rw [eσ144, dk_up_n (show ¬ (187 = 187 ∧ n = v139) by omega), eσ138, dk_up_n (show ¬ (187 = 189 ∧ n = h) by omega), eσ133, dk_up_n (show ¬ (187 = 188 ∧ n = h) by omega)]; exact hh.symm) (fun x_ => by first | (rw [show n + 1 = v139 by omega, eσ144, dk_up_s]) | (exfalso; omega))).2; rw [show v139 = n + 1 by omega]; omega) | (have h_ := (FT_back (σ' := σ144) hFT (by omega) (by omega) (by omega) (fun j_ a_ b_ => by rw [eσ144, dk_up_n (show ¬ (187 = 187 ∧ j_ = v139) by omega), eσ138, dk_up_n (show ¬ (187 = 189 ∧ j_ = h) by omega), eσ133, dk_up_n (show ¬ (187 = 188 ∧ j_ = h) by omega), hF110 187 j_ (by omega), eσ90, dk_up_n (show ¬ (187 = 187 ∧ j_ = n) by omega), eσ87, dk_up_n (show ¬ (187 = 189 ∧ j_ = H) by omega), eσ82, dk_up_n (show ¬ (187 = 188 ∧ j_ = H) by omega)])).2; rw [show v139 = n - 1 by omega]; omega)) (fun k_ j_ h_ => by rw [eσ144, dk_up_n (show ¬ (k_ = 187 ∧ j_ = v139) from fun q_ => h_ (dk_wr (lo := 187) (hi := 189) q_.1 (by decide))), eσ138, dk_up_n (show ¬ (k_ = 189 ∧ j_ = h) from fun q_ => h_ (dk_wr (lo := 187) (hi := 189) q_.1 (by decide))), eσ133, dk_up_n (show ¬ (k_ = 188 ∧ j_ = h) from fun q_ => h_ (dk_wr (lo := 187) (hi := 189) q_.1 (by decide))), hF110 k_ j_ (fun w_ => h_ (dk_wr (lo := 187) (hi := 189) w_.1 (by decide))), eσ90, dk_up_n (show ¬ (k_ = 187 ∧ j_ = n) from fun q_ => h_ (dk_wr (lo := 187) (hi := 189) q_.1 (by decide))), eσ87, dk_up_n (show ¬ (k_ = 189 ∧ j_ = H) from fun q_ => h_ (dk_wr (lo := 187) (hi := 189) q_.1 (by decide))), eσ82, dk_up_n (show ¬ (k_ = 188 ∧ j_ = H) from fun q_ => h_ (dk_wr (lo := 187) (hi := 189) q_.1 (by decide))), hF44 k_ j_ (fun w_ => h_ (w_))]) (rfl) (by first | exact ⟨by omega, by omega, fun i_ x_ y_ => by omega, fun x_ y_ => by first | (rw [eσ144, dk_up_s]; omega) | (exfalso; omega)⟩ | exact (show v139 = n + 1 by omega) ▸ (FT_fwd (h := h) (σ' := σ144) hFT (by omega) (by omega) (by omega) (fun j_ a_ b_ => by rw [eσ144, dk_up_n (show ¬ (187 = 187 ∧ j_ = v139) by omega), eσ138, dk_up_n (show ¬ (187 = 189 ∧ j_ = h) by omega), eσ133, dk_up_n (show ¬ (187 = 188 ∧ j_ = h) by omega), hF110 187 j_ (by omega), eσ90, dk_up_n (show ¬ (187 = 187 ∧ j_ = n) by omega), eσ87, dk_up_n (show ¬ (187 = 189 ∧ j_ = H) by omega), eσ82, dk_up_n (show ¬ (187 = 188 ∧ j_ = H) by omega)]) (by rw [eσ144, dk_up_n (show ¬ (187 = 187 ∧ n = v139) by omega), eσ138, dk_up_n (show ¬ (187 = 189 ∧ n = h) by omega), eσ133, dk_up_n (show ¬ (187 = 188 ∧ n = h) by omega)]; exact hh.symm) (fun x_ => by first | (rw [show n + 1 = v139 by omega, eσ144, dk_up_s]) | (exfalso; omega))).1 | exact (show v139 = n - 1 by omega) ▸ (FT_back (σ' := σ144) hFT (by omega) (by omega) (by omega) (fun j_ a_ b_ => by rw [eσ144, dk_up_n (show ¬ (187 = 187 ∧ j_ = v139) by omega), eσ138, dk_up_n (show ¬ (187 = 189 ∧ j_ = h) by omega), eσ133, dk_up_n (show ¬ (187 = 188 ∧ j_ = h) by omega), hF110 187 j_ (by omega), eσ90, dk_up_n (show ¬ (187 = 187 ∧ j_ = n) by omega), eσ87, dk_up_n (show ¬ (187 = 189 ∧ j_ = H) by omega), eσ82, dk_up_n (show ¬ (187 = 188 ∧ j_ = H) by omega)])).1) (by first | exact (fun e_ => ⟨by omega, fun x_ => by first | (rw [eσ144, dk_up_s]) | (exfalso; omega), fun j_ x_ y_ => by first | exact hz j_ (by omega) (by omega) | (rw [eσ144, dk_up_n (by omega), dk_up_n (by omega)]; exact hz j_ (by omega) (by omega))⟩) | exact (fun e_ => by have t_ := hTR e_; have u_ := t_.2.1 (by omega); have w_ := ht e_; refine ⟨by omega, fun x_ => by first | (rw [eσ144, dk_up_s]) | (exfalso; omega), fun j_ x_ y_ => ⟨by rw [eσ144, dk_up_n (show ¬ (188 = 187 ∧ j_ = v139) by omega), eσ138, dk_up_n (show ¬ (188 = 189 ∧ j_ = h) by omega), eσ133, dk_up_n (show ¬ (188 = 188 ∧ j_ = h) by omega), hF110 188 j_ (by omega), eσ90, dk_up_n (show ¬ (188 = 187 ∧ j_ = n) by omega), eσ87, dk_up_n (show ¬ (188 = 189 ∧ j_ = H) by omega), eσ82, dk_up_n (show ¬ (188 = 188 ∧ j_ = H) by omega)]; exact (t_.2.2 j_ (by omega) y_).1, by rw [eσ144, dk_up_n (show ¬ (189 = 187 ∧ j_ = v139) by omega), eσ138, dk_up_n (show ¬ (189 = 189 ∧ j_ = h) by omega), eσ133, dk_up_n (show ¬ (189 = 188 ∧ j_ = h) by omega), hF110 189 j_ (by omega), eσ90, dk_up_n (show ¬ (189 = 187 ∧ j_ = n) by omega), eσ87, dk_up_n (show ¬ (189 = 189 ∧ j_ = H) by omega), eσ82, dk_up_n (show ¬ (189 = 188 ∧ j_ = H) by omega)]; exact (t_.2.2 j_ (by omega) y_).2⟩⟩) | exact (fun e_ => by have t_ := hTR e_; have u_ := t_.2.1 (by omega); exfalso; omega) | exact (fun e_ => by have w_ := ht e_; exfalso; omega))
                              · skip
                                obtain ⟨v147, hv147⟩ : ∃ z : Int, z = n + (-1) := ⟨_, rfl⟩
                                refine dk_iinc (pc' := 185) (ls' := [(4, 141), (0, a), (0, v147)]) hE dX11_fits_182 rfl hv147.symm (by omega) rfl (by decide) rfl ?_
                                refine dk_goto (tgt := 44) hE dX11_fits_185 (by decide) ?_
                                exact ih44 v147 (σ110c 187 v147) σ110c (by first | (have h_ := (FT_fwd (h := h) (σ' := σ110c) hFT (by omega) (by omega) (by omega) (fun j_ a_ b_ => by rw [hF110 187 j_ (by omega), eσ90, dk_up_n (show ¬ (187 = 187 ∧ j_ = n) by omega), eσ87, dk_up_n (show ¬ (187 = 189 ∧ j_ = H) by omega), eσ82, dk_up_n (show ¬ (187 = 188 ∧ j_ = H) by omega)]) (by rw []; exact hh.symm) (fun x_ => by first | (rw [show n + 1 = v147 by omega, rfl, dk_up_s]) | (exfalso; omega))).2; rw [show v147 = n + 1 by omega]; omega) | (have h_ := (FT_back (σ' := σ110c) hFT (by omega) (by omega) (by omega) (fun j_ a_ b_ => by rw [hF110 187 j_ (by omega), eσ90, dk_up_n (show ¬ (187 = 187 ∧ j_ = n) by omega), eσ87, dk_up_n (show ¬ (187 = 189 ∧ j_ = H) by omega), eσ82, dk_up_n (show ¬ (187 = 188 ∧ j_ = H) by omega)])).2; rw [show v147 = n - 1 by omega]; omega)) (fun k_ j_ h_ => by rw [hF110 k_ j_ (fun w_ => h_ (dk_wr (lo := 187) (hi := 189) w_.1 (by decide))), eσ90, dk_up_n (show ¬ (k_ = 187 ∧ j_ = n) from fun q_ => h_ (dk_wr (lo := 187) (hi := 189) q_.1 (by decide))), eσ87, dk_up_n (show ¬ (k_ = 189 ∧ j_ = H) from fun q_ => h_ (dk_wr (lo := 187) (hi := 189) q_.1 (by decide))), eσ82, dk_up_n (show ¬ (k_ = 188 ∧ j_ = H) from fun q_ => h_ (dk_wr (lo := 187) (hi := 189) q_.1 (by decide))), hF44 k_ j_ (fun w_ => h_ (w_))]) (rfl) (by first | exact ⟨by omega, by omega, fun i_ x_ y_ => by omega, fun x_ y_ => by first | (rw [rfl, dk_up_s]; omega) | (exfalso; omega)⟩ | exact (show v147 = n + 1 by omega) ▸ (FT_fwd (h := h) (σ' := σ110c) hFT (by omega) (by omega) (by omega) (fun j_ a_ b_ => by rw [hF110 187 j_ (by omega), eσ90, dk_up_n (show ¬ (187 = 187 ∧ j_ = n) by omega), eσ87, dk_up_n (show ¬ (187 = 189 ∧ j_ = H) by omega), eσ82, dk_up_n (show ¬ (187 = 188 ∧ j_ = H) by omega)]) (by rw []; exact hh.symm) (fun x_ => by first | (rw [show n + 1 = v147 by omega, rfl, dk_up_s]) | (exfalso; omega))).1 | exact (show v147 = n - 1 by omega) ▸ (FT_back (σ' := σ110c) hFT (by omega) (by omega) (by omega) (fun j_ a_ b_ => by rw [hF110 187 j_ (by omega), eσ90, dk_up_n (show ¬ (187 = 187 ∧ j_ = n) by omega), eσ87, dk_up_n (show ¬ (187 = 189 ∧ j_ = H) by omega), eσ82, dk_up_n (show ¬ (187 = 188 ∧ j_ = H) by omega)])).1) (by first | exact (fun e_ => ⟨by omega, fun x_ => by first | (rw [rfl, dk_up_s]) | (exfalso; omega), fun j_ x_ y_ => by first | exact hz j_ (by omega) (by omega) | (rw [rfl, dk_up_n (by omega), dk_up_n (by omega)]; exact hz j_ (by omega) (by omega))⟩) | exact (fun e_ => by have t_ := hTR e_; have u_ := t_.2.1 (by omega); have w_ := ht e_; refine ⟨by omega, fun x_ => by first | (rw [rfl, dk_up_s]) | (exfalso; omega), fun j_ x_ y_ => ⟨by rw [hF110 188 j_ (by omega), eσ90, dk_up_n (show ¬ (188 = 187 ∧ j_ = n) by omega), eσ87, dk_up_n (show ¬ (188 = 189 ∧ j_ = H) by omega), eσ82, dk_up_n (show ¬ (188 = 188 ∧ j_ = H) by omega)]; exact (t_.2.2 j_ (by omega) y_).1, by rw [hF110 189 j_ (by omega), eσ90, dk_up_n (show ¬ (189 = 187 ∧ j_ = n) by omega), eσ87, dk_up_n (show ¬ (189 = 189 ∧ j_ = H) by omega), eσ82, dk_up_n (show ¬ (189 = 188 ∧ j_ = H) by omega)]; exact (t_.2.2 j_ (by omega) y_).2⟩⟩) | exact (fun e_ => by have t_ := hTR e_; have u_ := t_.2.1 (by omega); exfalso; omega) | exact (fun e_ => by have w_ := ht e_; exfalso; omega))
                            · skip
                              refine dk_aload_n (pc' := 160) hE dX11_fits_159 rfl rfl rfl ?_
                              refine gf_11_76 (pc' := 163) (w := 187) hE fl_X11_152 dX11_fits_160 is_141 rfl rfl ?_
                              refine dk_iload_n (pc' := 164) hE dX11_fits_163 rfl rfl rfl ?_
                              refine dk_dup2 (pc' := 165) hE dX11_fits_164 (show (0 : Nat) ≠ 3 by decide) (show (4 : Nat) ≠ 3 by decide) rfl ?_
                              refine ga_115 (pc' := 166) hE dX11_fits_165 is_187 (by omega) rfl (fun v150 hv150 htv150 hbv150 => ?_)
                              have hq150 : h = v150 := (show v150 = h by rw [hv150, hv123]).symm
                              subst hq150
                              clear htv150 hbv150
                              refine dk_iconst (pc' := 167) hE dX11_fits_166 (by decide) rfl ?_
                              obtain ⟨v151, hv151⟩ : ∃ z : Int, z = h + 1 := ⟨_, rfl⟩
                              refine dk_iadd (pc' := 168) hE dX11_fits_167 hv151.symm (by omega) rfl ?_
                              refine pa_115 (pc' := 169) hE dX11_fits_168 is_187 (by omega) (by omega) rfl (fun σ152 eσ152 => ?_)
                              refine dk_goto (tgt := 110) hE dX11_fits_169 (by decide) ?_
                              have hz152_187_n : σ152 187 n = v151 := by rw [eσ152, dk_up_s]
                              exact ih110 (σ152 187 n) σ152 (by omega) (fun k_ j_ h_ => by rw [eσ152, dk_up_n (show ¬ (k_ = 187 ∧ j_ = n) from fun q_ => h_ (q_)), hF110 k_ j_ (fun w_ => h_ (w_))]) (rfl) (by omega) (fun e_ => by have t_ := hTR e_; have u_ := t_.2.1 (by omega); omega)
                    have hz154 : σ90 187 n = v89 := by rw [eσ90, dk_up_s]
                    have hz154_187_n : σ90 187 n = v89 := by rw [eσ90, dk_up_s]
                    exact lp110 _ (σ90 187 n) σ90 (Nat.lt_succ_self _) (fun k_ j_ h_ => rfl) (rfl) (by omega) (fun e_ => by have t_ := hTR e_; have u_ := t_.2.1 (by omega); omega)
          exact lp44 _ 0 (σ2c 187 0) σ2c (Nat.lt_succ_self _) (fun k_ j_ h_ => rfl) (rfl) (by first | exact ⟨by omega, by omega, fun i_ x_ y_ => by omega, fun x_ y_ => by first | (rw [rfl, dk_up_s]; omega) | (exfalso; omega)⟩ | exact (show 0 = n + 1 by omega) ▸ (FT_fwd (h := h) (σ' := σ2c) hFT (by omega) (by omega) (by omega) (fun j_ a_ b_ => by rw [show True from trivial]) (by rw [show True from trivial]; exact hh.symm) (fun x_ => by first | (rw [show n + 1 = 0 by omega, rfl, dk_up_s]) | (exfalso; omega))).1 | exact (show 0 = n - 1 by omega) ▸ (FT_back (σ' := σ2c) hFT (by omega) (by omega) (by omega) (fun j_ a_ b_ => by rw [show True from trivial])).1) (by first | exact (fun e_ => ⟨by omega, fun x_ => by first | (rw [rfl, dk_up_s]) | (exfalso; omega), fun j_ x_ y_ => by first | exact hz j_ (by omega) (by omega) | (rw [rfl, dk_up_n (by omega), dk_up_n (by omega)]; exact hz j_ (by omega) (by omega))⟩) | exact (fun e_ => by have t_ := hTR e_; have u_ := t_.2.1 (by omega); have w_ := ht e_; refine ⟨by omega, fun x_ => by first | (rw [rfl, dk_up_s]) | (exfalso; omega), fun j_ x_ y_ => ⟨by rw [show True from trivial]; exact (t_.2.2 j_ (by omega) y_).1, by rw [show True from trivial]; exact (t_.2.2 j_ (by omega) y_).2⟩⟩) | exact (fun e_ => by have t_ := hTR e_; have u_ := t_.2.1 (by omega); exfalso; omega) | exact (fun e_ => by have w_ := ht e_; exfalso; omega))
        · skip
          refine dk_aload_n (pc' := 38) hE dX11_fits_37 rfl rfl rfl ?_
          refine gf_11_76 (pc' := 41) (w := 187) hE fl_X11_152 dX11_fits_38 is_141 rfl rfl ?_
          refine dk_iconst (pc' := 42) hE dX11_fits_41 (by decide) rfl ?_
          refine dk_iconst (pc' := 43) hE dX11_fits_42 (by decide) rfl ?_
          refine pa_115 (pc' := 44) hE dX11_fits_43 is_187 (by omega) (by omega) rfl (fun σ158 eσ158 => ?_)
          have lp44 : ∀ (N_ : Nat) (n H : Int) (σ44c : dkS), (2357947691 - wV R n σ44c).toNat < N_ → ((∀ k_ j_ : Int, ¬ ((187 ≤ k_ ∧ k_ ≤ 189)) → σ44c k_ j_ = σ158 k_ j_)) → (HN σ44c n H) → (FT a R n σ44c) → (TR a R n σ44c) → dk_PJ E 44 [(4, 141), (0, a), (0, n)] [] 190 σ44c := by
            intro N44
            induction N44 with
            | zero => intro n H σ44c hm; exact absurd hm (Nat.not_lt_zero _)
            | succ N44 ih44 =>
              intro n H σ44c hm44 hF44 hH_ hFT hTR
              have hH : H = σ44c 187 n := hH_
              have hf1 := hFT.1
              have hf2 := hFT.2.1
              have hf3 := hFT.2.2.2
              have hf4 := FT_b hFT (by omega)
              rw [← hH] at hf3
              refine dk_iload_n (pc' := 45) hE dX11_fits_44 rfl rfl rfl ?_
              refine dk_if_lt (tgt := 244) (pc' := 48) hE dX11_fits_45 (by decide) rfl (fun hc159 => ?_) (fun hc159 => ?_)
              · skip
                refine dk_iload_n (pc' := 245) hE dX11_fits_244 rfl rfl rfl ?_
                refine dk_if_lt (tgt := 252) (pc' := 248) hE dX11_fits_245 (by decide) rfl (fun hc160 => ?_) (fun hc160 => ?_)
                · skip
                  refine dk_iconst (pc' := 253) hE dX11_fits_252 (by decide) rfl ?_
                  exact dk_zret (st := []) hE hR dX11_fits_253 (by omega) ⟨_, rfl, (fun k_ j_ h_ => by rw [hF44 k_ j_ (fun w_ => h_ (w_)), eσ158, dk_up_n (show ¬ (k_ = 187 ∧ j_ = 0) from fun q_ => h_ (dk_wr (lo := 187) (hi := 189) q_.1 (by decide))), hF2 k_ j_ (fun w_ => h_ (dk_wrr (lo := 187) (hi := 189) w_ (by decide) (by decide)))]), ⟨by omega, by omega, fun e_ => by have t_ := hTR e_; omega⟩⟩
                · skip
                  refine dk_iconst (pc' := 249) hE dX11_fits_248 (by decide) rfl ?_
                  refine dk_goto (tgt := 253) hE dX11_fits_249 (by decide) ?_
                  exact dk_zret (st := []) hE hR dX11_fits_253 (by omega) ⟨_, rfl, (fun k_ j_ h_ => by rw [hF44 k_ j_ (fun w_ => h_ (w_)), eσ158, dk_up_n (show ¬ (k_ = 187 ∧ j_ = 0) from fun q_ => h_ (dk_wr (lo := 187) (hi := 189) q_.1 (by decide))), hF2 k_ j_ (fun w_ => h_ (dk_wrr (lo := 187) (hi := 189) w_ (by decide) (by decide)))]), ⟨by omega, by omega, fun e_ => by have t_ := hTR e_; omega⟩⟩
              · skip
                refine dk_iload_n (pc' := 49) hE dX11_fits_48 rfl rfl rfl ?_
                refine dk_aload_n (pc' := 50) hE dX11_fits_49 rfl rfl rfl ?_
                refine gf_11_79 (pc' := 53) hE fl_X11_278 dX11_fits_50 is_141 rfl (fun v161 hv161 htv161 hbv161 => ?_)
                have hq161 : R = v161 := (show v161 = R by rw [hv161, hF44 141 79 (by omega), eσ158, dk_up_n (show ¬ (141 = 187 ∧ 79 = 0) by omega), hv2]).symm
                subst hq161
                clear htv161 hbv161
                refine dk_icmp_ge (tgt := 244) (pc' := 56) hE dX11_fits_53 (by decide) rfl (fun hc162 => ?_) (fun hc162 => ?_)
                · skip
                  refine dk_iload_n (pc' := 245) hE dX11_fits_244 rfl rfl rfl ?_
                  refine dk_if_lt (tgt := 252) (pc' := 248) hE dX11_fits_245 (by decide) rfl (fun hc163 => ?_) (fun hc163 => ?_)
                  · skip
                    refine dk_iconst (pc' := 253) hE dX11_fits_252 (by decide) rfl ?_
                    exact dk_zret (st := []) hE hR dX11_fits_253 (by omega) ⟨_, rfl, (fun k_ j_ h_ => by rw [hF44 k_ j_ (fun w_ => h_ (w_)), eσ158, dk_up_n (show ¬ (k_ = 187 ∧ j_ = 0) from fun q_ => h_ (dk_wr (lo := 187) (hi := 189) q_.1 (by decide))), hF2 k_ j_ (fun w_ => h_ (dk_wrr (lo := 187) (hi := 189) w_ (by decide) (by decide)))]), ⟨by omega, by omega, fun e_ => by have t_ := hTR e_; omega⟩⟩
                  · skip
                    refine dk_iconst (pc' := 249) hE dX11_fits_248 (by decide) rfl ?_
                    refine dk_goto (tgt := 253) hE dX11_fits_249 (by decide) ?_
                    exact dk_zret (st := []) hE hR dX11_fits_253 (by omega) ⟨_, rfl, (fun k_ j_ h_ => by rw [hF44 k_ j_ (fun w_ => h_ (w_)), eσ158, dk_up_n (show ¬ (k_ = 187 ∧ j_ = 0) from fun q_ => h_ (dk_wr (lo := 187) (hi := 189) q_.1 (by decide))), hF2 k_ j_ (fun w_ => h_ (dk_wrr (lo := 187) (hi := 189) w_ (by decide) (by decide)))]), ⟨by omega, by omega, fun e_ => by have t_ := hTR e_; omega⟩⟩
                · skip
                  refine dk_aload_n (pc' := 57) hE dX11_fits_56 rfl rfl rfl ?_
                  refine gf_11_76 (pc' := 60) (w := 187) hE fl_X11_152 dX11_fits_57 is_141 rfl rfl ?_
                  refine dk_iload_n (pc' := 61) hE dX11_fits_60 rfl rfl rfl ?_
                  refine ga_115 (pc' := 62) hE dX11_fits_61 is_187 (by omega) rfl (fun v164 hv164 htv164 hbv164 => ?_)
                  have hq164 : H = v164 := (show v164 = H by rw [hv164, hH]).symm
                  subst hq164
                  clear htv164 hbv164
                  refine dk_if_lt (tgt := 100) (pc' := 65) hE dX11_fits_62 (by decide) rfl (fun hc165 => ?_) (fun hc165 => ?_)
                  · skip
                    refine dk_aload_n (pc' := 101) hE dX11_fits_100 rfl rfl rfl ?_
                    refine gf_11_76 (pc' := 104) (w := 187) hE fl_X11_152 dX11_fits_101 is_141 rfl rfl ?_
                    refine dk_iload_n (pc' := 105) hE dX11_fits_104 rfl rfl rfl ?_
                    refine dk_dup2 (pc' := 106) hE dX11_fits_105 (show (0 : Nat) ≠ 3 by decide) (show (4 : Nat) ≠ 3 by decide) rfl ?_
                    refine ga_115 (pc' := 107) hE dX11_fits_106 is_187 (by omega) rfl (fun v166 hv166 htv166 hbv166 => ?_)
                    have hq166 : H = v166 := (show v166 = H by rw [hv166, hv164]).symm
                    subst hq166
                    clear htv166 hbv166
                    refine dk_iconst (pc' := 108) hE dX11_fits_107 (by decide) rfl ?_
                    obtain ⟨v167, hv167⟩ : ∃ z : Int, z = H + 1 := ⟨_, rfl⟩
                    refine dk_iadd (pc' := 109) hE dX11_fits_108 hv167.symm (by omega) rfl ?_
                    refine pa_115 (pc' := 110) hE dX11_fits_109 is_187 (by omega) (by omega) rfl (fun σ168 eσ168 => ?_)
                    have lp110 : ∀ (N_ : Nat) (h : Int) (σ110c : dkS), (a - h).toNat < N_ → ((∀ k_ j_ : Int, ¬ ((k_ = 187 ∧ j_ = n)) → σ110c k_ j_ = σ168 k_ j_)) → (h = σ110c 187 n) → (H + 1 ≤ h ∧ h ≤ a ∧ 0 ≤ h) → (R ≤ a → h ≤ n) → dk_PJ E 110 [(4, 141), (0, a), (0, n)] [] 190 σ110c := by
                      intro N110
                      induction N110 with
                      | zero => intro h σ110c hm; exact absurd hm (Nat.not_lt_zero _)
                      | succ N110 ih110 =>
                        intro h σ110c hm110 hF110 hh hr ht
                        refine dk_aload_n (pc' := 111) hE dX11_fits_110 rfl rfl rfl ?_
                        refine gf_11_76 (pc' := 114) (w := 187) hE fl_X11_152 dX11_fits_111 is_141 rfl rfl ?_
                        refine dk_iload_n (pc' := 115) hE dX11_fits_114 rfl rfl rfl ?_
                        refine ga_115 (pc' := 116) hE dX11_fits_115 is_187 (by omega) rfl (fun v169 hv169 htv169 hbv169 => ?_)
                        have hq169 : h = v169 := (show v169 = h by rw [hv169, hh]).symm
                        subst hq169
                        clear htv169 hbv169
                        refine dk_iload_n (pc' := 117) hE dX11_fits_116 rfl rfl rfl ?_
                        refine dk_icmp_ge (tgt := 172) (pc' := 120) hE dX11_fits_117 (by decide) rfl (fun hc170 => ?_) (fun hc170 => ?_)
                        · skip
                          refine dk_aload_n (pc' := 173) hE dX11_fits_172 rfl rfl rfl ?_
                          refine gf_11_76 (pc' := 176) (w := 187) hE fl_X11_152 dX11_fits_173 is_141 rfl rfl ?_
                          refine dk_iload_n (pc' := 177) hE dX11_fits_176 rfl rfl rfl ?_
                          refine ga_115 (pc' := 178) hE dX11_fits_177 is_187 (by omega) rfl (fun v171 hv171 htv171 hbv171 => ?_)
                          have hq171 : h = v171 := (show v171 = h by rw [hv171, hv169]).symm
                          subst hq171
                          clear htv171 hbv171
                          refine dk_iload_n (pc' := 179) hE dX11_fits_178 rfl rfl rfl ?_
                          refine dk_icmp_ne (tgt := 188) (pc' := 182) hE dX11_fits_179 (by decide) rfl (fun hc172 => ?_) (fun hc172 => ?_)
                          · skip
                            refine dk_aload_n (pc' := 189) hE dX11_fits_188 rfl rfl rfl ?_
                            refine gf_11_77 (pc' := 192) (w := 188) hE fl_X11_155 dX11_fits_189 is_141 rfl rfl ?_
                            refine dk_aload_n (pc' := 193) hE dX11_fits_192 rfl rfl rfl ?_
                            refine gf_11_76 (pc' := 196) (w := 187) hE fl_X11_152 dX11_fits_193 is_141 rfl rfl ?_
                            refine dk_iload_n (pc' := 197) hE dX11_fits_196 rfl rfl rfl ?_
                            refine ga_115 (pc' := 198) hE dX11_fits_197 is_187 (by omega) rfl (fun v173 hv173 htv173 hbv173 => ?_)
                            have hq173 : h = v173 := (show v173 = h by rw [hv173, hv171]).symm
                            subst hq173
                            clear htv173 hbv173
                            refine dk_dup2 (pc' := 199) hE dX11_fits_198 (show (0 : Nat) ≠ 3 by decide) (show (4 : Nat) ≠ 3 by decide) rfl ?_
                            refine ga_116 (pc' := 200) hE dX11_fits_199 is_188 (by omega) rfl (fun v174 hv174 htv174 hbv174 => ?_)
                            refine dk_iconst (pc' := 201) hE dX11_fits_200 (by decide) rfl ?_
                            refine dk_iaddW (pc' := 202) hE dX11_fits_201 rfl (fun v175 hv175 _ => ?_)
                            refine pa_116 (pc' := 203) hE dX11_fits_202 is_188 (by omega) trivial rfl (fun σ176 eσ176 => ?_)
                            refine dk_aload_n (pc' := 204) hE dX11_fits_203 rfl rfl rfl ?_
                            refine gf_11_78 (pc' := 207) (w := 189) hE fl_X11_158 dX11_fits_204 is_141 rfl rfl ?_
                            refine dk_aload_n (pc' := 208) hE dX11_fits_207 rfl rfl rfl ?_
                            refine gf_11_76 (pc' := 211) (w := 187) hE fl_X11_152 dX11_fits_208 is_141 rfl rfl ?_
                            refine dk_iload_n (pc' := 212) hE dX11_fits_211 rfl rfl rfl ?_
                            refine ga_115 (pc' := 213) hE dX11_fits_212 is_187 (by omega) rfl (fun v177 hv177 htv177 hbv177 => ?_)
                            have hq177 : h = v177 := (show v177 = h by rw [hv177, eσ176, dk_up_n (show ¬ (187 = 188 ∧ n = h) by omega), hv173]).symm
                            subst hq177
                            clear htv177 hbv177
                            refine dk_dup2 (pc' := 214) hE dX11_fits_213 (show (0 : Nat) ≠ 3 by decide) (show (4 : Nat) ≠ 3 by decide) rfl ?_
                            refine ga_117 (pc' := 215) hE dX11_fits_214 is_189 (by omega) rfl (fun v178 hv178 htv178 hbv178 => ?_)
                            refine dk_aload_n (pc' := 216) hE dX11_fits_215 rfl rfl rfl ?_
                            refine gf_11_75 (pc' := 219) (w := 186) hE fl_X11_149 dX11_fits_216 is_141 rfl rfl ?_
                            refine dk_iload_n (pc' := 220) hE dX11_fits_219 rfl rfl rfl ?_
                            refine ga_114 (pc' := 221) hE dX11_fits_220 is_186 (by omega) rfl (fun v179 hv179 htv179 hbv179 => ?_)
                            refine dk_iaddW (pc' := 222) hE dX11_fits_221 rfl (fun v180 hv180 _ => ?_)
                            refine pa_117 (pc' := 223) hE dX11_fits_222 is_189 (by omega) trivial rfl (fun σ181 eσ181 => ?_)
                            obtain ⟨v182, hv182⟩ : ∃ z : Int, z = n + 1 := ⟨_, rfl⟩
                            refine dk_iinc (pc' := 226) (ls' := [(4, 141), (0, a), (0, v182)]) hE dX11_fits_223 rfl hv182.symm (by omega) rfl (by decide) rfl ?_
                            refine dk_iload_n (pc' := 227) hE dX11_fits_226 rfl rfl rfl ?_
                            refine dk_aload_n (pc' := 228) hE dX11_fits_227 rfl rfl rfl ?_
                            refine gf_11_79 (pc' := 231) hE fl_X11_278 dX11_fits_228 is_141 rfl (fun v183 hv183 htv183 hbv183 => ?_)
                            have hq183 : R = v183 := (show v183 = R by rw [hv183, eσ181, dk_up_n (show ¬ (141 = 189 ∧ 79 = h) by omega), eσ176, dk_up_n (show ¬ (141 = 188 ∧ 79 = h) by omega), hF110 141 79 (by omega), eσ168, dk_up_n (show ¬ (141 = 187 ∧ 79 = n) by omega), hv161]).symm
                            subst hq183
                            clear htv183 hbv183
                            refine dk_icmp_ge (tgt := 44) (pc' := 234) hE dX11_fits_231 (by decide) rfl (fun hc184 => ?_) (fun hc184 => ?_)
                            · skip
                              exact ih44 v182 (σ181 187 v182) σ181 (by first | (have h_ := (FT_fwd (h := h) (σ' := σ181) hFT (by omega) (by omega) (by omega) (fun j_ a_ b_ => by rw [eσ181, dk_up_n (show ¬ (187 = 189 ∧ j_ = h) by omega), eσ176, dk_up_n (show ¬ (187 = 188 ∧ j_ = h) by omega), hF110 187 j_ (by omega), eσ168, dk_up_n (show ¬ (187 = 187 ∧ j_ = n) by omega)]) (by rw [eσ181, dk_up_n (show ¬ (187 = 189 ∧ n = h) by omega), eσ176, dk_up_n (show ¬ (187 = 188 ∧ n = h) by omega)]; exact hh.symm) (fun x_ => by first | (rw [show n + 1 = v182 by omega, eσ181, dk_up_s]) | (exfalso; omega))).2; rw [show v182 = n + 1 by omega]; omega) | (have h_ := (FT_back (σ' := σ181) hFT (by omega) (by omega) (by omega) (fun j_ a_ b_ => by rw [eσ181, dk_up_n (show ¬ (187 = 189 ∧ j_ = h) by omega), eσ176, dk_up_n (show ¬ (187 = 188 ∧ j_ = h) by omega), hF110 187 j_ (by omega), eσ168, dk_up_n (show ¬ (187 = 187 ∧ j_ = n) by omega)])).2; rw [show v182 = n - 1 by omega]; omega)) (fun k_ j_ h_ => by rw [eσ181, dk_up_n (show ¬ (k_ = 189 ∧ j_ = h) from fun q_ => h_ (dk_wr (lo := 187) (hi := 189) q_.1 (by decide))), eσ176, dk_up_n (show ¬ (k_ = 188 ∧ j_ = h) from fun q_ => h_ (dk_wr (lo := 187) (hi := 189) q_.1 (by decide))), hF110 k_ j_ (fun w_ => h_ (dk_wr (lo := 187) (hi := 189) w_.1 (by decide))), eσ168, dk_up_n (show ¬ (k_ = 187 ∧ j_ = n) from fun q_ => h_ (dk_wr (lo := 187) (hi := 189) q_.1 (by decide))), hF44 k_ j_ (fun w_ => h_ (w_))]) (rfl) (by first | exact ⟨by omega, by omega, fun i_ x_ y_ => by omega, fun x_ y_ => by first | (rw [eσ181, dk_up_s]; omega) | (exfalso; omega)⟩ | exact (show v182 = n + 1 by omega) ▸ (FT_fwd (h := h) (σ' := σ181) hFT (by omega) (by omega) (by omega) (fun j_ a_ b_ => by rw [eσ181, dk_up_n (show ¬ (187 = 189 ∧ j_ = h) by omega), eσ176, dk_up_n (show ¬ (187 = 188 ∧ j_ = h) by omega), hF110 187 j_ (by omega), eσ168, dk_up_n (show ¬ (187 = 187 ∧ j_ = n) by omega)]) (by rw [eσ181, dk_up_n (show ¬ (187 = 189 ∧ n = h) by omega), eσ176, dk_up_n (show ¬ (187 = 188 ∧ n = h) by omega)]; exact hh.symm) (fun x_ => by first | (rw [show n + 1 = v182 by omega, eσ181, dk_up_s]) | (exfalso; omega))).1 | exact (show v182 = n - 1 by omega) ▸ (FT_back (σ' := σ181) hFT (by omega) (by omega) (by omega) (fun j_ a_ b_ => by rw [eσ181, dk_up_n (show ¬ (187 = 189 ∧ j_ = h) by omega), eσ176, dk_up_n (show ¬ (187 = 188 ∧ j_ = h) by omega), hF110 187 j_ (by omega), eσ168, dk_up_n (show ¬ (187 = 187 ∧ j_ = n) by omega)])).1) (by first | exact (fun e_ => ⟨by omega, fun x_ => by first | (rw [eσ181, dk_up_s]) | (exfalso; omega), fun j_ x_ y_ => by first | exact hz j_ (by omega) (by omega) | (rw [eσ181, dk_up_n (by omega), dk_up_n (by omega)]; exact hz j_ (by omega) (by omega))⟩) | exact (fun e_ => by have t_ := hTR e_; have u_ := t_.2.1 (by omega); have w_ := ht e_; refine ⟨by omega, fun x_ => by first | (rw [eσ181, dk_up_s]) | (exfalso; omega), fun j_ x_ y_ => ⟨by rw [eσ181, dk_up_n (show ¬ (188 = 189 ∧ j_ = h) by omega), eσ176, dk_up_n (show ¬ (188 = 188 ∧ j_ = h) by omega), hF110 188 j_ (by omega), eσ168, dk_up_n (show ¬ (188 = 187 ∧ j_ = n) by omega)]; exact (t_.2.2 j_ (by omega) y_).1, by rw [eσ181, dk_up_n (show ¬ (189 = 189 ∧ j_ = h) by omega), eσ176, dk_up_n (show ¬ (189 = 188 ∧ j_ = h) by omega), hF110 189 j_ (by omega), eσ168, dk_up_n (show ¬ (189 = 187 ∧ j_ = n) by omega)]; exact (t_.2.2 j_ (by omega) y_).2⟩⟩) | exact (fun e_ => by have t_ := hTR e_; have u_ := t_.2.1 (by omega); exfalso; omega) | exact (fun e_ => by have w_ := ht e_; exfalso; omega))
                            · skip
                              refine dk_aload_n (pc' := 235) hE dX11_fits_234 rfl rfl rfl ?_
                              refine gf_11_76 (pc' := 238) (w := 187) hE fl_X11_152 dX11_fits_235 is_141 rfl rfl ?_
                              refine dk_iload_n (pc' := 239) hE dX11_fits_238 rfl rfl rfl ?_
                              refine dk_iconst (pc' := 240) hE dX11_fits_239 (by decide) rfl ?_
                              refine pa_115 (pc' := 241) hE dX11_fits_240 is_187 (by omega) (by omega) rfl (fun σ187 eσ187 => ?_)
                              refine dk_goto (tgt := 44) hE dX11_fits_241 (by decide) ?_
                              exact ih44 v182 (σ187 187 v182) σ187 (by first | (have h_ := (FT_fwd (h := h) (σ' := σ187) hFT (by omega) (by omega) (by omega) (fun j_ a_ b_ => by rw [eσ187, dk_up_n (show ¬ (187 = 187 ∧ j_ = v182) by omega), eσ181, dk_up_n (show ¬ (187 = 189 ∧ j_ = h) by omega), eσ176, dk_up_n (show ¬ (187 = 188 ∧ j_ = h) by omega), hF110 187 j_ (by omega), eσ168, dk_up_n (show ¬ (187 = 187 ∧ j_ = n) by omega)]) (by rw [eσ187, dk_up_n (show ¬ (187 = 187 ∧ n = v182) by omega), eσ181, dk_up_n (show ¬ (187 = 189 ∧ n = h) by omega), eσ176, dk_up_n (show ¬ (187 = 188 ∧ n = h) by omega)]; exact hh.symm) (fun x_ => by first | (rw [show n + 1 = v182 by omega, eσ187, dk_up_s]) | (exfalso; omega))).2; rw [show v182 = n + 1 by omega]; omega) | (have h_ := (FT_back (σ' := σ187) hFT (by omega) (by omega) (by omega) (fun j_ a_ b_ => by rw [eσ187, dk_up_n (show ¬ (187 = 187 ∧ j_ = v182) by omega), eσ181, dk_up_n (show ¬ (187 = 189 ∧ j_ = h) by omega), eσ176, dk_up_n (show ¬ (187 = 188 ∧ j_ = h) by omega), hF110 187 j_ (by omega), eσ168, dk_up_n (show ¬ (187 = 187 ∧ j_ = n) by omega)])).2; rw [show v182 = n - 1 by omega]; omega)) (fun k_ j_ h_ => by rw [eσ187, dk_up_n (show ¬ (k_ = 187 ∧ j_ = v182) from fun q_ => h_ (dk_wr (lo := 187) (hi := 189) q_.1 (by decide))), eσ181, dk_up_n (show ¬ (k_ = 189 ∧ j_ = h) from fun q_ => h_ (dk_wr (lo := 187) (hi := 189) q_.1 (by decide))), eσ176, dk_up_n (show ¬ (k_ = 188 ∧ j_ = h) from fun q_ => h_ (dk_wr (lo := 187) (hi := 189) q_.1 (by decide))), hF110 k_ j_ (fun w_ => h_ (dk_wr (lo := 187) (hi := 189) w_.1 (by decide))), eσ168, dk_up_n (show ¬ (k_ = 187 ∧ j_ = n) from fun q_ => h_ (dk_wr (lo := 187) (hi := 189) q_.1 (by decide))), hF44 k_ j_ (fun w_ => h_ (w_))]) (rfl) (by first | exact ⟨by omega, by omega, fun i_ x_ y_ => by omega, fun x_ y_ => by first | (rw [eσ187, dk_up_s]; omega) | (exfalso; omega)⟩ | exact (show v182 = n + 1 by omega) ▸ (FT_fwd (h := h) (σ' := σ187) hFT (by omega) (by omega) (by omega) (fun j_ a_ b_ => by rw [eσ187, dk_up_n (show ¬ (187 = 187 ∧ j_ = v182) by omega), eσ181, dk_up_n (show ¬ (187 = 189 ∧ j_ = h) by omega), eσ176, dk_up_n (show ¬ (187 = 188 ∧ j_ = h) by omega), hF110 187 j_ (by omega), eσ168, dk_up_n (show ¬ (187 = 187 ∧ j_ = n) by omega)]) (by rw [eσ187, dk_up_n (show ¬ (187 = 187 ∧ n = v182) by omega), eσ181, dk_up_n (show ¬ (187 = 189 ∧ n = h) by omega), eσ176, dk_up_n (show ¬ (187 = 188 ∧ n = h) by omega)]; exact hh.symm) (fun x_ => by first | (rw [show n + 1 = v182 by omega, eσ187, dk_up_s]) | (exfalso; omega))).1 | exact (show v182 = n - 1 by omega) ▸ (FT_back (σ' := σ187) hFT (by omega) (by omega) (by omega) (fun j_ a_ b_ => by rw [eσ187, dk_up_n (show ¬ (187 = 187 ∧ j_ = v182) by omega), eσ181, dk_up_n (show ¬ (187 = 189 ∧ j_ = h) by omega), eσ176, dk_up_n (show ¬ (187 = 188 ∧ j_ = h) by omega), hF110 187 j_ (by omega), eσ168, dk_up_n (show ¬ (187 = 187 ∧ j_ = n) by omega)])).1) (by first | exact (fun e_ => ⟨by omega, fun x_ => by first | (rw [eσ187, dk_up_s]) | (exfalso; omega), fun j_ x_ y_ => by first | exact hz j_ (by omega) (by omega) | (rw [eσ187, dk_up_n (by omega), dk_up_n (by omega)]; exact hz j_ (by omega) (by omega))⟩) | exact (fun e_ => by have t_ := hTR e_; have u_ := t_.2.1 (by omega); have w_ := ht e_; refine ⟨by omega, fun x_ => by first | (rw [eσ187, dk_up_s]) | (exfalso; omega), fun j_ x_ y_ => ⟨by rw [eσ187, dk_up_n (show ¬ (188 = 187 ∧ j_ = v182) by omega), eσ181, dk_up_n (show ¬ (188 = 189 ∧ j_ = h) by omega), eσ176, dk_up_n (show ¬ (188 = 188 ∧ j_ = h) by omega), hF110 188 j_ (by omega), eσ168, dk_up_n (show ¬ (188 = 187 ∧ j_ = n) by omega)]; exact (t_.2.2 j_ (by omega) y_).1, by rw [eσ187, dk_up_n (show ¬ (189 = 187 ∧ j_ = v182) by omega), eσ181, dk_up_n (show ¬ (189 = 189 ∧ j_ = h) by omega), eσ176, dk_up_n (show ¬ (189 = 188 ∧ j_ = h) by omega), hF110 189 j_ (by omega), eσ168, dk_up_n (show ¬ (189 = 187 ∧ j_ = n) by omega)]; exact (t_.2.2 j_ (by omega) y_).2⟩⟩) | exact (fun e_ => by have t_ := hTR e_; have u_ := t_.2.1 (by omega); exfalso; omega) | exact (fun e_ => by have w_ := ht e_; exfalso; omega))
                          · skip
                            obtain ⟨v190, hv190⟩ : ∃ z : Int, z = n + (-1) := ⟨_, rfl⟩
                            refine dk_iinc (pc' := 185) (ls' := [(4, 141), (0, a), (0, v190)]) hE dX11_fits_182 rfl hv190.symm (by omega) rfl (by decide) rfl ?_
                            refine dk_goto (tgt := 44) hE dX11_fits_185 (by decide) ?_
                            exact ih44 v190 (σ110c 187 v190) σ110c (by first | (have h_ := (FT_fwd (h := h) (σ' := σ110c) hFT (by omega) (by omega) (by omega) (fun j_ a_ b_ => by rw [hF110 187 j_ (by omega), eσ168, dk_up_n (show ¬ (187 = 187 ∧ j_ = n) by omega)]) (by rw []; exact hh.symm) (fun x_ => by first | (rw [show n + 1 = v190 by omega, rfl, dk_up_s]) | (exfalso; omega))).2; rw [show v190 = n + 1 by omega]; omega) | (have h_ := (FT_back (σ' := σ110c) hFT (by omega) (by omega) (by omega) (fun j_ a_ b_ => by rw [hF110 187 j_ (by omega), eσ168, dk_up_n (show ¬ (187 = 187 ∧ j_ = n) by omega)])).2; rw [show v190 = n - 1 by omega]; omega)) (fun k_ j_ h_ => by rw [hF110 k_ j_ (fun w_ => h_ (dk_wr (lo := 187) (hi := 189) w_.1 (by decide))), eσ168, dk_up_n (show ¬ (k_ = 187 ∧ j_ = n) from fun q_ => h_ (dk_wr (lo := 187) (hi := 189) q_.1 (by decide))), hF44 k_ j_ (fun w_ => h_ (w_))]) (rfl) (by first | exact ⟨by omega, by omega, fun i_ x_ y_ => by omega, fun x_ y_ => by first | (rw [rfl, dk_up_s]; omega) | (exfalso; omega)⟩ | exact (show v190 = n + 1 by omega) ▸ (FT_fwd (h := h) (σ' := σ110c) hFT (by omega) (by omega) (by omega) (fun j_ a_ b_ => by rw [hF110 187 j_ (by omega), eσ168, dk_up_n (show ¬ (187 = 187 ∧ j_ = n) by omega)]) (by rw []; exact hh.symm) (fun x_ => by first | (rw [show n + 1 = v190 by omega, rfl, dk_up_s]) | (exfalso; omega))).1 | exact (show v190 = n - 1 by omega) ▸ (FT_back (σ' := σ110c) hFT (by omega) (by omega) (by omega) (fun j_ a_ b_ => by rw [hF110 187 j_ (by omega), eσ168, dk_up_n (show ¬ (187 = 187 ∧ j_ = n) by omega)])).1) (by first | exact (fun e_ => ⟨by omega, fun x_ => by first | (rw [rfl, dk_up_s]) | (exfalso; omega), fun j_ x_ y_ => by first | exact hz j_ (by omega) (by omega) | (rw [rfl, dk_up_n (by omega), dk_up_n (by omega)]; exact hz j_ (by omega) (by omega))⟩) | exact (fun e_ => by have t_ := hTR e_; have u_ := t_.2.1 (by omega); have w_ := ht e_; refine ⟨by omega, fun x_ => by first | (rw [rfl, dk_up_s]) | (exfalso; omega), fun j_ x_ y_ => ⟨by rw [hF110 188 j_ (by omega), eσ168, dk_up_n (show ¬ (188 = 187 ∧ j_ = n) by omega)]; exact (t_.2.2 j_ (by omega) y_).1, by rw [hF110 189 j_ (by omega), eσ168, dk_up_n (show ¬ (189 = 187 ∧ j_ = n) by omega)]; exact (t_.2.2 j_ (by omega) y_).2⟩⟩) | exact (fun e_ => by have t_ := hTR e_; have u_ := t_.2.1 (by omega); exfalso; omega) | exact (fun e_ => by have w_ := ht e_; exfalso; omega))
                        · skip
                          refine dk_aload_n (pc' := 121) hE dX11_fits_120 rfl rfl rfl ?_
                          refine gf_11_77 (pc' := 124) (w := 188) hE fl_X11_155 dX11_fits_121 is_141 rfl rfl ?_
                          refine dk_aload_n (pc' := 125) hE dX11_fits_124 rfl rfl rfl ?_
                          refine gf_11_76 (pc' := 128) (w := 187) hE fl_X11_152 dX11_fits_125 is_141 rfl rfl ?_
                          refine dk_iload_n (pc' := 129) hE dX11_fits_128 rfl rfl rfl ?_
                          refine ga_115 (pc' := 130) hE dX11_fits_129 is_187 (by omega) rfl (fun v193 hv193 htv193 hbv193 => ?_)
                          have hq193 : h = v193 := (show v193 = h by rw [hv193, hv169]).symm
                          subst hq193
                          clear htv193 hbv193
                          refine ga_116 (pc' := 131) hE dX11_fits_130 is_188 (by omega) rfl (fun v194 hv194 htv194 hbv194 => ?_)
                          have hq130 : R ≤ a → n ≤ h → v194 = 0 := fun e_ l_ => by have t_ := (hTR e_).2.2 h l_ (by omega); have u_ := (hTR e_).2.1 (by omega); rw [hv194, hF110 188 h (by omega), eσ168, dk_up_n (show ¬ (188 = 187 ∧ h = n) by omega)]; exact t_.1
                          refine dk_aload_n (pc' := 132) hE dX11_fits_131 rfl rfl rfl ?_
                          refine gf_11_80 (pc' := 135) hE fl_X11_161 dX11_fits_132 is_141 rfl (fun v195 hv195 htv195 hbv195 => ?_)
                          refine dk_icmp_eq (tgt := 159) (pc' := 138) hE dX11_fits_135 (by decide) rfl (fun hc196 => ?_) (fun hc196 => ?_)
                          · skip
                            refine dk_aload_n (pc' := 160) hE dX11_fits_159 rfl rfl rfl ?_
                            refine gf_11_76 (pc' := 163) (w := 187) hE fl_X11_152 dX11_fits_160 is_141 rfl rfl ?_
                            refine dk_iload_n (pc' := 164) hE dX11_fits_163 rfl rfl rfl ?_
                            refine dk_dup2 (pc' := 165) hE dX11_fits_164 (show (0 : Nat) ≠ 3 by decide) (show (4 : Nat) ≠ 3 by decide) rfl ?_
                            refine ga_115 (pc' := 166) hE dX11_fits_165 is_187 (by omega) rfl (fun v197 hv197 htv197 hbv197 => ?_)
                            have hq197 : h = v197 := (show v197 = h by rw [hv197, hv193]).symm
                            subst hq197
                            clear htv197 hbv197
                            refine dk_iconst (pc' := 167) hE dX11_fits_166 (by decide) rfl ?_
                            obtain ⟨v198, hv198⟩ : ∃ z : Int, z = h + 1 := ⟨_, rfl⟩
                            refine dk_iadd (pc' := 168) hE dX11_fits_167 hv198.symm (by omega) rfl ?_
                            refine pa_115 (pc' := 169) hE dX11_fits_168 is_187 (by omega) (by omega) rfl (fun σ199 eσ199 => ?_)
                            refine dk_goto (tgt := 110) hE dX11_fits_169 (by decide) ?_
                            have hz199_187_n : σ199 187 n = v198 := by rw [eσ199, dk_up_s]
                            exact ih110 (σ199 187 n) σ199 (by omega) (fun k_ j_ h_ => by rw [eσ199, dk_up_n (show ¬ (k_ = 187 ∧ j_ = n) from fun q_ => h_ (q_)), hF110 k_ j_ (fun w_ => h_ (w_))]) (rfl) (by omega) (fun e_ => by have t_ := hTR e_; have u_ := t_.2.1 (by omega); omega)
                          · skip
                            refine dk_aload_n (pc' := 139) hE dX11_fits_138 rfl rfl rfl ?_
                            refine gf_11_78 (pc' := 142) (w := 189) hE fl_X11_158 dX11_fits_139 is_141 rfl rfl ?_
                            refine dk_aload_n (pc' := 143) hE dX11_fits_142 rfl rfl rfl ?_
                            refine gf_11_76 (pc' := 146) (w := 187) hE fl_X11_152 dX11_fits_143 is_141 rfl rfl ?_
                            refine dk_iload_n (pc' := 147) hE dX11_fits_146 rfl rfl rfl ?_
                            refine ga_115 (pc' := 148) hE dX11_fits_147 is_187 (by omega) rfl (fun v201 hv201 htv201 hbv201 => ?_)
                            have hq201 : h = v201 := (show v201 = h by rw [hv201, hv193]).symm
                            subst hq201
                            clear htv201 hbv201
                            refine ga_117 (pc' := 149) hE dX11_fits_148 is_189 (by omega) rfl (fun v202 hv202 htv202 hbv202 => ?_)
                            have hq148 : R ≤ a → n ≤ h → v202 = 0 := fun e_ l_ => by have t_ := (hTR e_).2.2 h l_ (by omega); have u_ := (hTR e_).2.1 (by omega); rw [hv202, hF110 189 h (by omega), eσ168, dk_up_n (show ¬ (189 = 187 ∧ h = n) by omega)]; exact t_.2
                            refine dk_aload_n (pc' := 150) hE dX11_fits_149 rfl rfl rfl ?_
                            refine gf_11_75 (pc' := 153) (w := 186) hE fl_X11_149 dX11_fits_150 is_141 rfl rfl ?_
                            refine dk_iload_n (pc' := 154) hE dX11_fits_153 rfl rfl rfl ?_
                            refine ga_114 (pc' := 155) hE dX11_fits_154 is_186 (by omega) rfl (fun v203 hv203 htv203 hbv203 => ?_)
                            refine dk_iand (pc' := 156) hE dX11_fits_155 rfl (fun v204 hv204 ev204 => ?_)
                            have hq155 : v202 = 0 → v204 = 0 := fun e_ => by rw [ev204, e_]; exact dk_and0
                            refine dk_if_eq (tgt := 172) (pc' := 159) hE dX11_fits_156 (by decide) rfl (fun hc205 => ?_) (fun hc205 => ?_)
                            · skip
                              refine dk_aload_n (pc' := 173) hE dX11_fits_172 rfl rfl rfl ?_
                              refine gf_11_76 (pc' := 176) (w := 187) hE fl_X11_152 dX11_fits_173 is_141 rfl rfl ?_
                              refine dk_iload_n (pc' := 177) hE dX11_fits_176 rfl rfl rfl ?_
                              refine ga_115 (pc' := 178) hE dX11_fits_177 is_187 (by omega) rfl (fun v206 hv206 htv206 hbv206 => ?_)
                              have hq206 : h = v206 := (show v206 = h by rw [hv206, hv201]).symm
                              subst hq206
                              clear htv206 hbv206
                              refine dk_iload_n (pc' := 179) hE dX11_fits_178 rfl rfl rfl ?_
                              refine dk_icmp_ne (tgt := 188) (pc' := 182) hE dX11_fits_179 (by decide) rfl (fun hc207 => ?_) (fun hc207 => ?_)
                              · skip
                                refine dk_aload_n (pc' := 189) hE dX11_fits_188 rfl rfl rfl ?_
                                refine gf_11_77 (pc' := 192) (w := 188) hE fl_X11_155 dX11_fits_189 is_141 rfl rfl ?_
                                refine dk_aload_n (pc' := 193) hE dX11_fits_192 rfl rfl rfl ?_
                                refine gf_11_76 (pc' := 196) (w := 187) hE fl_X11_152 dX11_fits_193 is_141 rfl rfl ?_
                                refine dk_iload_n (pc' := 197) hE dX11_fits_196 rfl rfl rfl ?_
                                refine ga_115 (pc' := 198) hE dX11_fits_197 is_187 (by omega) rfl (fun v208 hv208 htv208 hbv208 => ?_)
                                have hq208 : h = v208 := (show v208 = h by rw [hv208, hv206]).symm
                                subst hq208
                                clear htv208 hbv208
                                refine dk_dup2 (pc' := 199) hE dX11_fits_198 (show (0 : Nat) ≠ 3 by decide) (show (4 : Nat) ≠ 3 by decide) rfl ?_
                                refine ga_116 (pc' := 200) hE dX11_fits_199 is_188 (by omega) rfl (fun v209 hv209 htv209 hbv209 => ?_)
                                have hq209 : v194 = v209 := (show v209 = v194 by rw [hv209, hv194]).symm
                                subst hq209
                                clear htv209 hbv209
                                refine dk_iconst (pc' := 201) hE dX11_fits_200 (by decide) rfl ?_
                                refine dk_iaddW (pc' := 202) hE dX11_fits_201 rfl (fun v210 hv210 _ => ?_)
                                refine pa_116 (pc' := 203) hE dX11_fits_202 is_188 (by omega) trivial rfl (fun σ211 eσ211 => ?_)
                                refine dk_aload_n (pc' := 204) hE dX11_fits_203 rfl rfl rfl ?_
                                refine gf_11_78 (pc' := 207) (w := 189) hE fl_X11_158 dX11_fits_204 is_141 rfl rfl ?_
                                refine dk_aload_n (pc' := 208) hE dX11_fits_207 rfl rfl rfl ?_
                                refine gf_11_76 (pc' := 211) (w := 187) hE fl_X11_152 dX11_fits_208 is_141 rfl rfl ?_
                                refine dk_iload_n (pc' := 212) hE dX11_fits_211 rfl rfl rfl ?_
                                refine ga_115 (pc' := 213) hE dX11_fits_212 is_187 (by omega) rfl (fun v212 hv212 htv212 hbv212 => ?_)
                                have hq212 : h = v212 := (show v212 = h by rw [hv212, eσ211, dk_up_n (show ¬ (187 = 188 ∧ n = h) by omega), hv208]).symm
                                subst hq212
                                clear htv212 hbv212
                                refine dk_dup2 (pc' := 214) hE dX11_fits_213 (show (0 : Nat) ≠ 3 by decide) (show (4 : Nat) ≠ 3 by decide) rfl ?_
                                refine ga_117 (pc' := 215) hE dX11_fits_214 is_189 (by omega) rfl (fun v213 hv213 htv213 hbv213 => ?_)
                                have hq213 : v202 = v213 := (show v213 = v202 by rw [hv213, eσ211, dk_up_n (show ¬ (189 = 188 ∧ h = h) by omega), hv202]).symm
                                subst hq213
                                clear htv213 hbv213
                                refine dk_aload_n (pc' := 216) hE dX11_fits_215 rfl rfl rfl ?_
                                refine gf_11_75 (pc' := 219) (w := 186) hE fl_X11_149 dX11_fits_216 is_141 rfl rfl ?_
                                refine dk_iload_n (pc' := 220) hE dX11_fits_219 rfl rfl rfl ?_
                                refine ga_114 (pc' := 221) hE dX11_fits_220 is_186 (by omega) rfl (fun v214 hv214 htv214 hbv214 => ?_)
                                have hq214 : v203 = v214 := (show v214 = v203 by rw [hv214, eσ211, dk_up_n (show ¬ (186 = 188 ∧ n = h) by omega), hv203]).symm
                                subst hq214
                                clear htv214 hbv214
                                refine dk_iaddW (pc' := 222) hE dX11_fits_221 rfl (fun v215 hv215 _ => ?_)
                                refine pa_117 (pc' := 223) hE dX11_fits_222 is_189 (by omega) trivial rfl (fun σ216 eσ216 => ?_)
                                obtain ⟨v217, hv217⟩ : ∃ z : Int, z = n + 1 := ⟨_, rfl⟩
                                refine dk_iinc (pc' := 226) (ls' := [(4, 141), (0, a), (0, v217)]) hE dX11_fits_223 rfl hv217.symm (by omega) rfl (by decide) rfl ?_
                                refine dk_iload_n (pc' := 227) hE dX11_fits_226 rfl rfl rfl ?_
                                refine dk_aload_n (pc' := 228) hE dX11_fits_227 rfl rfl rfl ?_
                                refine gf_11_79 (pc' := 231) hE fl_X11_278 dX11_fits_228 is_141 rfl (fun v218 hv218 htv218 hbv218 => ?_)
                                have hq218 : R = v218 := (show v218 = R by rw [hv218, eσ216, dk_up_n (show ¬ (141 = 189 ∧ 79 = h) by omega), eσ211, dk_up_n (show ¬ (141 = 188 ∧ 79 = h) by omega), hF110 141 79 (by omega), eσ168, dk_up_n (show ¬ (141 = 187 ∧ 79 = n) by omega), hv161]).symm
                                subst hq218
                                clear htv218 hbv218
                                refine dk_icmp_ge (tgt := 44) (pc' := 234) hE dX11_fits_231 (by decide) rfl (fun hc219 => ?_) (fun hc219 => ?_)
                                · skip
                                  exact ih44 v217 (σ216 187 v217) σ216 (by first | (have h_ := (FT_fwd (h := h) (σ' := σ216) hFT (by omega) (by omega) (by omega) (fun j_ a_ b_ => by rw [eσ216, dk_up_n (show ¬ (187 = 189 ∧ j_ = h) by omega), eσ211, dk_up_n (show ¬ (187 = 188 ∧ j_ = h) by omega), hF110 187 j_ (by omega), eσ168, dk_up_n (show ¬ (187 = 187 ∧ j_ = n) by omega)]) (by rw [eσ216, dk_up_n (show ¬ (187 = 189 ∧ n = h) by omega), eσ211, dk_up_n (show ¬ (187 = 188 ∧ n = h) by omega)]; exact hh.symm) (fun x_ => by first | (rw [show n + 1 = v217 by omega, eσ216, dk_up_s]) | (exfalso; omega))).2; rw [show v217 = n + 1 by omega]; omega) | (have h_ := (FT_back (σ' := σ216) hFT (by omega) (by omega) (by omega) (fun j_ a_ b_ => by rw [eσ216, dk_up_n (show ¬ (187 = 189 ∧ j_ = h) by omega), eσ211, dk_up_n (show ¬ (187 = 188 ∧ j_ = h) by omega), hF110 187 j_ (by omega), eσ168, dk_up_n (show ¬ (187 = 187 ∧ j_ = n) by omega)])).2; rw [show v217 = n - 1 by omega]; omega)) (fun k_ j_ h_ => by rw [eσ216, dk_up_n (show ¬ (k_ = 189 ∧ j_ = h) from fun q_ => h_ (dk_wr (lo := 187) (hi := 189) q_.1 (by decide))), eσ211, dk_up_n (show ¬ (k_ = 188 ∧ j_ = h) from fun q_ => h_ (dk_wr (lo := 187) (hi := 189) q_.1 (by decide))), hF110 k_ j_ (fun w_ => h_ (dk_wr (lo := 187) (hi := 189) w_.1 (by decide))), eσ168, dk_up_n (show ¬ (k_ = 187 ∧ j_ = n) from fun q_ => h_ (dk_wr (lo := 187) (hi := 189) q_.1 (by decide))), hF44 k_ j_ (fun w_ => h_ (w_))]) (rfl) (by first | exact ⟨by omega, by omega, fun i_ x_ y_ => by omega, fun x_ y_ => by first | (rw [eσ216, dk_up_s]; omega) | (exfalso; omega)⟩ | exact (show v217 = n + 1 by omega) ▸ (FT_fwd (h := h) (σ' := σ216) hFT (by omega) (by omega) (by omega) (fun j_ a_ b_ => by rw [eσ216, dk_up_n (show ¬ (187 = 189 ∧ j_ = h) by omega), eσ211, dk_up_n (show ¬ (187 = 188 ∧ j_ = h) by omega), hF110 187 j_ (by omega), eσ168, dk_up_n (show ¬ (187 = 187 ∧ j_ = n) by omega)]) (by rw [eσ216, dk_up_n (show ¬ (187 = 189 ∧ n = h) by omega), eσ211, dk_up_n (show ¬ (187 = 188 ∧ n = h) by omega)]; exact hh.symm) (fun x_ => by first | (rw [show n + 1 = v217 by omega, eσ216, dk_up_s]) | (exfalso; omega))).1 | exact (show v217 = n - 1 by omega) ▸ (FT_back (σ' := σ216) hFT (by omega) (by omega) (by omega) (fun j_ a_ b_ => by rw [eσ216, dk_up_n (show ¬ (187 = 189 ∧ j_ = h) by omega), eσ211, dk_up_n (show ¬ (187 = 188 ∧ j_ = h) by omega), hF110 187 j_ (by omega), eσ168, dk_up_n (show ¬ (187 = 187 ∧ j_ = n) by omega)])).1) (by first | exact (fun e_ => ⟨by omega, fun x_ => by first | (rw [eσ216, dk_up_s]) | (exfalso; omega), fun j_ x_ y_ => by first | exact hz j_ (by omega) (by omega) | (rw [eσ216, dk_up_n (by omega), dk_up_n (by omega)]; exact hz j_ (by omega) (by omega))⟩) | exact (fun e_ => by have t_ := hTR e_; have u_ := t_.2.1 (by omega); have w_ := ht e_; refine ⟨by omega, fun x_ => by first | (rw [eσ216, dk_up_s]) | (exfalso; omega), fun j_ x_ y_ => ⟨by rw [eσ216, dk_up_n (show ¬ (188 = 189 ∧ j_ = h) by omega), eσ211, dk_up_n (show ¬ (188 = 188 ∧ j_ = h) by omega), hF110 188 j_ (by omega), eσ168, dk_up_n (show ¬ (188 = 187 ∧ j_ = n) by omega)]; exact (t_.2.2 j_ (by omega) y_).1, by rw [eσ216, dk_up_n (show ¬ (189 = 189 ∧ j_ = h) by omega), eσ211, dk_up_n (show ¬ (189 = 188 ∧ j_ = h) by omega), hF110 189 j_ (by omega), eσ168, dk_up_n (show ¬ (189 = 187 ∧ j_ = n) by omega)]; exact (t_.2.2 j_ (by omega) y_).2⟩⟩) | exact (fun e_ => by have t_ := hTR e_; have u_ := t_.2.1 (by omega); exfalso; omega) | exact (fun e_ => by have w_ := ht e_; exfalso; omega))
                                · skip
                                  refine dk_aload_n (pc' := 235) hE dX11_fits_234 rfl rfl rfl ?_
                                  refine gf_11_76 (pc' := 238) (w := 187) hE fl_X11_152 dX11_fits_235 is_141 rfl rfl ?_
                                  refine dk_iload_n (pc' := 239) hE dX11_fits_238 rfl rfl rfl ?_
                                  refine dk_iconst (pc' := 240) hE dX11_fits_239 (by decide) rfl ?_
                                  refine pa_115 (pc' := 241) hE dX11_fits_240 is_187 (by omega) (by omega) rfl (fun σ222 eσ222 => ?_)
                                  refine dk_goto (tgt := 44) hE dX11_fits_241 (by decide) ?_
                                  exact ih44 v217 (σ222 187 v217) σ222 (by first | (have h_ := (FT_fwd (h := h) (σ' := σ222) hFT (by omega) (by omega) (by omega) (fun j_ a_ b_ => by rw [eσ222, dk_up_n (show ¬ (187 = 187 ∧ j_ = v217) by omega), eσ216, dk_up_n (show ¬ (187 = 189 ∧ j_ = h) by omega), eσ211, dk_up_n (show ¬ (187 = 188 ∧ j_ = h) by omega), hF110 187 j_ (by omega), eσ168, dk_up_n (show ¬ (187 = 187 ∧ j_ = n) by omega)]) (by rw [eσ222, dk_up_n (show ¬ (187 = 187 ∧ n = v217) by omega), eσ216, dk_up_n (show ¬ (187 = 189 ∧ n = h) by omega), eσ211, dk_up_n (show ¬ (187 = 188 ∧ n = h) by omega)]; exact hh.symm) (fun x_ => by first | (rw [show n + 1 = v217 by omega, eσ222, dk_up_s]) | (exfalso; omega))).2; rw [show v217 = n + 1 by omega]; omega) | (have h_ := (FT_back (σ' := σ222) hFT (by omega) (by omega) (by omega) (fun j_ a_ b_ => by rw [eσ222, dk_up_n (show ¬ (187 = 187 ∧ j_ = v217) by omega), eσ216, dk_up_n (show ¬ (187 = 189 ∧ j_ = h) by omega), eσ211, dk_up_n (show ¬ (187 = 188 ∧ j_ = h) by omega), hF110 187 j_ (by omega), eσ168, dk_up_n (show ¬ (187 = 187 ∧ j_ = n) by omega)])).2; rw [show v217 = n - 1 by omega]; omega)) (fun k_ j_ h_ => by rw [eσ222, dk_up_n (show ¬ (k_ = 187 ∧ j_ = v217) from fun q_ => h_ (dk_wr (lo := 187) (hi := 189) q_.1 (by decide))), eσ216, dk_up_n (show ¬ (k_ = 189 ∧ j_ = h) from fun q_ => h_ (dk_wr (lo := 187) (hi := 189) q_.1 (by decide))), eσ211, dk_up_n (show ¬ (k_ = 188 ∧ j_ = h) from fun q_ => h_ (dk_wr (lo := 187) (hi := 189) q_.1 (by decide))), hF110 k_ j_ (fun w_ => h_ (dk_wr (lo := 187) (hi := 189) w_.1 (by decide))), eσ168, dk_up_n (show ¬ (k_ = 187 ∧ j_ = n) from fun q_ => h_ (dk_wr (lo := 187) (hi := 189) q_.1 (by decide))), hF44 k_ j_ (fun w_ => h_ (w_))]) (rfl) (by first | exact ⟨by omega, by omega, fun i_ x_ y_ => by omega, fun x_ y_ => by first | (rw [eσ222, dk_up_s]; omega) | (exfalso; omega)⟩ | exact (show v217 = n + 1 by omega) ▸ (FT_fwd (h := h) (σ' := σ222) hFT (by omega) (by omega) (by omega) (fun j_ a_ b_ => by rw [eσ222, dk_up_n (show ¬ (187 = 187 ∧ j_ = v217) by omega), eσ216, dk_up_n (show ¬ (187 = 189 ∧ j_ = h) by omega), eσ211, dk_up_n (show ¬ (187 = 188 ∧ j_ = h) by omega), hF110 187 j_ (by omega), eσ168, dk_up_n (show ¬ (187 = 187 ∧ j_ = n) by omega)]) (by rw [eσ222, dk_up_n (show ¬ (187 = 187 ∧ n = v217) by omega), eσ216, dk_up_n (show ¬ (187 = 189 ∧ n = h) by omega), eσ211, dk_up_n (show ¬ (187 = 188 ∧ n = h) by omega)]; exact hh.symm) (fun x_ => by first | (rw [show n + 1 = v217 by omega, eσ222, dk_up_s]) | (exfalso; omega))).1 | exact (show v217 = n - 1 by omega) ▸ (FT_back (σ' := σ222) hFT (by omega) (by omega) (by omega) (fun j_ a_ b_ => by rw [eσ222, dk_up_n (show ¬ (187 = 187 ∧ j_ = v217) by omega), eσ216, dk_up_n (show ¬ (187 = 189 ∧ j_ = h) by omega), eσ211, dk_up_n (show ¬ (187 = 188 ∧ j_ = h) by omega), hF110 187 j_ (by omega), eσ168, dk_up_n (show ¬ (187 = 187 ∧ j_ = n) by omega)])).1) (by first | exact (fun e_ => ⟨by omega, fun x_ => by first | (rw [eσ222, dk_up_s]) | (exfalso; omega), fun j_ x_ y_ => by first | exact hz j_ (by omega) (by omega) | (rw [eσ222, dk_up_n (by omega), dk_up_n (by omega)]; exact hz j_ (by omega) (by omega))⟩) | exact (fun e_ => by have t_ := hTR e_; have u_ := t_.2.1 (by omega); have w_ := ht e_; refine ⟨by omega, fun x_ => by first | (rw [eσ222, dk_up_s]) | (exfalso; omega), fun j_ x_ y_ => ⟨by rw [eσ222, dk_up_n (show ¬ (188 = 187 ∧ j_ = v217) by omega), eσ216, dk_up_n (show ¬ (188 = 189 ∧ j_ = h) by omega), eσ211, dk_up_n (show ¬ (188 = 188 ∧ j_ = h) by omega), hF110 188 j_ (by omega), eσ168, dk_up_n (show ¬ (188 = 187 ∧ j_ = n) by omega)]; exact (t_.2.2 j_ (by omega) y_).1, by rw [eσ222, dk_up_n (show ¬ (189 = 187 ∧ j_ = v217) by omega), eσ216, dk_up_n (show ¬ (189 = 189 ∧ j_ = h) by omega), eσ211, dk_up_n (show ¬ (189 = 188 ∧ j_ = h) by omega), hF110 189 j_ (by omega), eσ168, dk_up_n (show ¬ (189 = 187 ∧ j_ = n) by omega)]; exact (t_.2.2 j_ (by omega) y_).2⟩⟩) | exact (fun e_ => by have t_ := hTR e_; have u_ := t_.2.1 (by omega); exfalso; omega) | exact (fun e_ => by have w_ := ht e_; exfalso; omega))
                              · skip
                                obtain ⟨v225, hv225⟩ : ∃ z : Int, z = n + (-1) := ⟨_, rfl⟩
                                refine dk_iinc (pc' := 185) (ls' := [(4, 141), (0, a), (0, v225)]) hE dX11_fits_182 rfl hv225.symm (by omega) rfl (by decide) rfl ?_
                                refine dk_goto (tgt := 44) hE dX11_fits_185 (by decide) ?_
                                exact ih44 v225 (σ110c 187 v225) σ110c (by first | (have h_ := (FT_fwd (h := h) (σ' := σ110c) hFT (by omega) (by omega) (by omega) (fun j_ a_ b_ => by rw [hF110 187 j_ (by omega), eσ168, dk_up_n (show ¬ (187 = 187 ∧ j_ = n) by omega)]) (by rw []; exact hh.symm) (fun x_ => by first | (rw [show n + 1 = v225 by omega, rfl, dk_up_s]) | (exfalso; omega))).2; rw [show v225 = n + 1 by omega]; omega) | (have h_ := (FT_back (σ' := σ110c) hFT (by omega) (by omega) (by omega) (fun j_ a_ b_ => by rw [hF110 187 j_ (by omega), eσ168, dk_up_n (show ¬ (187 = 187 ∧ j_ = n) by omega)])).2; rw [show v225 = n - 1 by omega]; omega)) (fun k_ j_ h_ => by rw [hF110 k_ j_ (fun w_ => h_ (dk_wr (lo := 187) (hi := 189) w_.1 (by decide))), eσ168, dk_up_n (show ¬ (k_ = 187 ∧ j_ = n) from fun q_ => h_ (dk_wr (lo := 187) (hi := 189) q_.1 (by decide))), hF44 k_ j_ (fun w_ => h_ (w_))]) (rfl) (by first | exact ⟨by omega, by omega, fun i_ x_ y_ => by omega, fun x_ y_ => by first | (rw [rfl, dk_up_s]; omega) | (exfalso; omega)⟩ | exact (show v225 = n + 1 by omega) ▸ (FT_fwd (h := h) (σ' := σ110c) hFT (by omega) (by omega) (by omega) (fun j_ a_ b_ => by rw [hF110 187 j_ (by omega), eσ168, dk_up_n (show ¬ (187 = 187 ∧ j_ = n) by omega)]) (by rw []; exact hh.symm) (fun x_ => by first | (rw [show n + 1 = v225 by omega, rfl, dk_up_s]) | (exfalso; omega))).1 | exact (show v225 = n - 1 by omega) ▸ (FT_back (σ' := σ110c) hFT (by omega) (by omega) (by omega) (fun j_ a_ b_ => by rw [hF110 187 j_ (by omega), eσ168, dk_up_n (show ¬ (187 = 187 ∧ j_ = n) by omega)])).1) (by first | exact (fun e_ => ⟨by omega, fun x_ => by first | (rw [rfl, dk_up_s]) | (exfalso; omega), fun j_ x_ y_ => by first | exact hz j_ (by omega) (by omega) | (rw [rfl, dk_up_n (by omega), dk_up_n (by omega)]; exact hz j_ (by omega) (by omega))⟩) | exact (fun e_ => by have t_ := hTR e_; have u_ := t_.2.1 (by omega); have w_ := ht e_; refine ⟨by omega, fun x_ => by first | (rw [rfl, dk_up_s]) | (exfalso; omega), fun j_ x_ y_ => ⟨by rw [hF110 188 j_ (by omega), eσ168, dk_up_n (show ¬ (188 = 187 ∧ j_ = n) by omega)]; exact (t_.2.2 j_ (by omega) y_).1, by rw [hF110 189 j_ (by omega), eσ168, dk_up_n (show ¬ (189 = 187 ∧ j_ = n) by omega)]; exact (t_.2.2 j_ (by omega) y_).2⟩⟩) | exact (fun e_ => by have t_ := hTR e_; have u_ := t_.2.1 (by omega); exfalso; omega) | exact (fun e_ => by have w_ := ht e_; exfalso; omega))
                            · skip
                              refine dk_aload_n (pc' := 160) hE dX11_fits_159 rfl rfl rfl ?_
                              refine gf_11_76 (pc' := 163) (w := 187) hE fl_X11_152 dX11_fits_160 is_141 rfl rfl ?_
                              refine dk_iload_n (pc' := 164) hE dX11_fits_163 rfl rfl rfl ?_
                              refine dk_dup2 (pc' := 165) hE dX11_fits_164 (show (0 : Nat) ≠ 3 by decide) (show (4 : Nat) ≠ 3 by decide) rfl ?_
                              refine ga_115 (pc' := 166) hE dX11_fits_165 is_187 (by omega) rfl (fun v228 hv228 htv228 hbv228 => ?_)
                              have hq228 : h = v228 := (show v228 = h by rw [hv228, hv201]).symm
                              subst hq228
                              clear htv228 hbv228
                              refine dk_iconst (pc' := 167) hE dX11_fits_166 (by decide) rfl ?_
                              obtain ⟨v229, hv229⟩ : ∃ z : Int, z = h + 1 := ⟨_, rfl⟩
                              refine dk_iadd (pc' := 168) hE dX11_fits_167 hv229.symm (by omega) rfl ?_
                              refine pa_115 (pc' := 169) hE dX11_fits_168 is_187 (by omega) (by omega) rfl (fun σ230 eσ230 => ?_)
                              refine dk_goto (tgt := 110) hE dX11_fits_169 (by decide) ?_
                              have hz230_187_n : σ230 187 n = v229 := by rw [eσ230, dk_up_s]
                              exact ih110 (σ230 187 n) σ230 (by omega) (fun k_ j_ h_ => by rw [eσ230, dk_up_n (show ¬ (k_ = 187 ∧ j_ = n) from fun q_ => h_ (q_)), hF110 k_ j_ (fun w_ => h_ (w_))]) (rfl) (by omega) (fun e_ => by have t_ := hTR e_; have u_ := t_.2.1 (by omega); omega)
                    have hz232 : σ168 187 n = v167 := by rw [eσ168, dk_up_s]
                    have hz232_187_n : σ168 187 n = v167 := by rw [eσ168, dk_up_s]
                    exact lp110 _ (σ168 187 n) σ168 (Nat.lt_succ_self _) (fun k_ j_ h_ => rfl) (rfl) (by omega) (fun e_ => by have t_ := hTR e_; have u_ := t_.2.1 (by omega); omega)
                  · skip
                    refine dk_aload_n (pc' := 66) hE dX11_fits_65 rfl rfl rfl ?_
                    refine gf_11_77 (pc' := 69) (w := 188) hE fl_X11_155 dX11_fits_66 is_141 rfl rfl ?_
                    refine dk_aload_n (pc' := 70) hE dX11_fits_69 rfl rfl rfl ?_
                    refine gf_11_76 (pc' := 73) (w := 187) hE fl_X11_152 dX11_fits_70 is_141 rfl rfl ?_
                    refine dk_iload_n (pc' := 74) hE dX11_fits_73 rfl rfl rfl ?_
                    refine ga_115 (pc' := 75) hE dX11_fits_74 is_187 (by omega) rfl (fun v234 hv234 htv234 hbv234 => ?_)
                    have hq234 : H = v234 := (show v234 = H by rw [hv234, hv164]).symm
                    subst hq234
                    clear htv234 hbv234
                    refine dk_dup2 (pc' := 76) hE dX11_fits_75 (show (0 : Nat) ≠ 3 by decide) (show (4 : Nat) ≠ 3 by decide) rfl ?_
                    refine ga_116 (pc' := 77) hE dX11_fits_76 is_188 (by omega) rfl (fun v235 hv235 htv235 hbv235 => ?_)
                    refine dk_iconst (pc' := 78) hE dX11_fits_77 (by decide) rfl ?_
                    refine dk_isubW (pc' := 79) hE dX11_fits_78 rfl (fun v236 hv236 _ => ?_)
                    refine pa_116 (pc' := 80) hE dX11_fits_79 is_188 (by omega) trivial rfl (fun σ237 eσ237 => ?_)
                    refine dk_aload_n (pc' := 81) hE dX11_fits_80 rfl rfl rfl ?_
                    refine gf_11_78 (pc' := 84) (w := 189) hE fl_X11_158 dX11_fits_81 is_141 rfl rfl ?_
                    refine dk_aload_n (pc' := 85) hE dX11_fits_84 rfl rfl rfl ?_
                    refine gf_11_76 (pc' := 88) (w := 187) hE fl_X11_152 dX11_fits_85 is_141 rfl rfl ?_
                    refine dk_iload_n (pc' := 89) hE dX11_fits_88 rfl rfl rfl ?_
                    refine ga_115 (pc' := 90) hE dX11_fits_89 is_187 (by omega) rfl (fun v238 hv238 htv238 hbv238 => ?_)
                    have hq238 : H = v238 := (show v238 = H by rw [hv238, eσ237, dk_up_n (show ¬ (187 = 188 ∧ n = H) by omega), hv234]).symm
                    subst hq238
                    clear htv238 hbv238
                    refine dk_dup2 (pc' := 91) hE dX11_fits_90 (show (0 : Nat) ≠ 3 by decide) (show (4 : Nat) ≠ 3 by decide) rfl ?_
                    refine ga_117 (pc' := 92) hE dX11_fits_91 is_189 (by omega) rfl (fun v239 hv239 htv239 hbv239 => ?_)
                    refine dk_aload_n (pc' := 93) hE dX11_fits_92 rfl rfl rfl ?_
                    refine gf_11_75 (pc' := 96) (w := 186) hE fl_X11_149 dX11_fits_93 is_141 rfl rfl ?_
                    refine dk_iload_n (pc' := 97) hE dX11_fits_96 rfl rfl rfl ?_
                    refine ga_114 (pc' := 98) hE dX11_fits_97 is_186 (by omega) rfl (fun v240 hv240 htv240 hbv240 => ?_)
                    refine dk_isubW (pc' := 99) hE dX11_fits_98 rfl (fun v241 hv241 _ => ?_)
                    refine pa_117 (pc' := 100) hE dX11_fits_99 is_189 (by omega) trivial rfl (fun σ242 eσ242 => ?_)
                    refine dk_aload_n (pc' := 101) hE dX11_fits_100 rfl rfl rfl ?_
                    refine gf_11_76 (pc' := 104) (w := 187) hE fl_X11_152 dX11_fits_101 is_141 rfl rfl ?_
                    refine dk_iload_n (pc' := 105) hE dX11_fits_104 rfl rfl rfl ?_
                    refine dk_dup2 (pc' := 106) hE dX11_fits_105 (show (0 : Nat) ≠ 3 by decide) (show (4 : Nat) ≠ 3 by decide) rfl ?_
                    refine ga_115 (pc' := 107) hE dX11_fits_106 is_187 (by omega) rfl (fun v243 hv243 htv243 hbv243 => ?_)
                    have hq243 : H = v243 := (show v243 = H by rw [hv243, eσ242, dk_up_n (show ¬ (187 = 189 ∧ n = H) by omega), hv238]).symm
                    subst hq243
                    clear htv243 hbv243
                    refine dk_iconst (pc' := 108) hE dX11_fits_107 (by decide) rfl ?_
                    obtain ⟨v244, hv244⟩ : ∃ z : Int, z = H + 1 := ⟨_, rfl⟩
                    refine dk_iadd (pc' := 109) hE dX11_fits_108 hv244.symm (by omega) rfl ?_
                    refine pa_115 (pc' := 110) hE dX11_fits_109 is_187 (by omega) (by omega) rfl (fun σ245 eσ245 => ?_)
                    have lp110 : ∀ (N_ : Nat) (h : Int) (σ110c : dkS), (a - h).toNat < N_ → ((∀ k_ j_ : Int, ¬ ((k_ = 187 ∧ j_ = n)) → σ110c k_ j_ = σ245 k_ j_)) → (h = σ110c 187 n) → (H + 1 ≤ h ∧ h ≤ a ∧ 0 ≤ h) → (R ≤ a → h ≤ n) → dk_PJ E 110 [(4, 141), (0, a), (0, n)] [] 190 σ110c := by
                      intro N110
                      induction N110 with
                      | zero => intro h σ110c hm; exact absurd hm (Nat.not_lt_zero _)
                      | succ N110 ih110 =>
                        intro h σ110c hm110 hF110 hh hr ht
                        refine dk_aload_n (pc' := 111) hE dX11_fits_110 rfl rfl rfl ?_
                        refine gf_11_76 (pc' := 114) (w := 187) hE fl_X11_152 dX11_fits_111 is_141 rfl rfl ?_
                        refine dk_iload_n (pc' := 115) hE dX11_fits_114 rfl rfl rfl ?_
                        refine ga_115 (pc' := 116) hE dX11_fits_115 is_187 (by omega) rfl (fun v246 hv246 htv246 hbv246 => ?_)
                        have hq246 : h = v246 := (show v246 = h by rw [hv246, hh]).symm
                        subst hq246
                        clear htv246 hbv246
                        refine dk_iload_n (pc' := 117) hE dX11_fits_116 rfl rfl rfl ?_
                        refine dk_icmp_ge (tgt := 172) (pc' := 120) hE dX11_fits_117 (by decide) rfl (fun hc247 => ?_) (fun hc247 => ?_)
                        · skip
                          refine dk_aload_n (pc' := 173) hE dX11_fits_172 rfl rfl rfl ?_
                          refine gf_11_76 (pc' := 176) (w := 187) hE fl_X11_152 dX11_fits_173 is_141 rfl rfl ?_
                          refine dk_iload_n (pc' := 177) hE dX11_fits_176 rfl rfl rfl ?_
                          refine ga_115 (pc' := 178) hE dX11_fits_177 is_187 (by omega) rfl (fun v248 hv248 htv248 hbv248 => ?_)
                          have hq248 : h = v248 := (show v248 = h by rw [hv248, hv246]).symm
                          subst hq248
                          clear htv248 hbv248
                          refine dk_iload_n (pc' := 179) hE dX11_fits_178 rfl rfl rfl ?_
                          refine dk_icmp_ne (tgt := 188) (pc' := 182) hE dX11_fits_179 (by decide) rfl (fun hc249 => ?_) (fun hc249 => ?_)
                          · skip
                            refine dk_aload_n (pc' := 189) hE dX11_fits_188 rfl rfl rfl ?_
                            refine gf_11_77 (pc' := 192) (w := 188) hE fl_X11_155 dX11_fits_189 is_141 rfl rfl ?_
                            refine dk_aload_n (pc' := 193) hE dX11_fits_192 rfl rfl rfl ?_
                            refine gf_11_76 (pc' := 196) (w := 187) hE fl_X11_152 dX11_fits_193 is_141 rfl rfl ?_
                            refine dk_iload_n (pc' := 197) hE dX11_fits_196 rfl rfl rfl ?_
                            refine ga_115 (pc' := 198) hE dX11_fits_197 is_187 (by omega) rfl (fun v250 hv250 htv250 hbv250 => ?_)
                            have hq250 : h = v250 := (show v250 = h by rw [hv250, hv248]).symm
                            subst hq250
                            clear htv250 hbv250
                            refine dk_dup2 (pc' := 199) hE dX11_fits_198 (show (0 : Nat) ≠ 3 by decide) (show (4 : Nat) ≠ 3 by decide) rfl ?_
                            refine ga_116 (pc' := 200) hE dX11_fits_199 is_188 (by omega) rfl (fun v251 hv251 htv251 hbv251 => ?_)
                            refine dk_iconst (pc' := 201) hE dX11_fits_200 (by decide) rfl ?_
                            refine dk_iaddW (pc' := 202) hE dX11_fits_201 rfl (fun v252 hv252 _ => ?_)
                            refine pa_116 (pc' := 203) hE dX11_fits_202 is_188 (by omega) trivial rfl (fun σ253 eσ253 => ?_)
                            refine dk_aload_n (pc' := 204) hE dX11_fits_203 rfl rfl rfl ?_
                            refine gf_11_78 (pc' := 207) (w := 189) hE fl_X11_158 dX11_fits_204 is_141 rfl rfl ?_
                            refine dk_aload_n (pc' := 208) hE dX11_fits_207 rfl rfl rfl ?_
                            refine gf_11_76 (pc' := 211) (w := 187) hE fl_X11_152 dX11_fits_208 is_141 rfl rfl ?_
                            refine dk_iload_n (pc' := 212) hE dX11_fits_211 rfl rfl rfl ?_
                            refine ga_115 (pc' := 213) hE dX11_fits_212 is_187 (by omega) rfl (fun v254 hv254 htv254 hbv254 => ?_)
                            have hq254 : h = v254 := (show v254 = h by rw [hv254, eσ253, dk_up_n (show ¬ (187 = 188 ∧ n = h) by omega), hv250]).symm
                            subst hq254
                            clear htv254 hbv254
                            refine dk_dup2 (pc' := 214) hE dX11_fits_213 (show (0 : Nat) ≠ 3 by decide) (show (4 : Nat) ≠ 3 by decide) rfl ?_
                            refine ga_117 (pc' := 215) hE dX11_fits_214 is_189 (by omega) rfl (fun v255 hv255 htv255 hbv255 => ?_)
                            refine dk_aload_n (pc' := 216) hE dX11_fits_215 rfl rfl rfl ?_
                            refine gf_11_75 (pc' := 219) (w := 186) hE fl_X11_149 dX11_fits_216 is_141 rfl rfl ?_
                            refine dk_iload_n (pc' := 220) hE dX11_fits_219 rfl rfl rfl ?_
                            refine ga_114 (pc' := 221) hE dX11_fits_220 is_186 (by omega) rfl (fun v256 hv256 htv256 hbv256 => ?_)
                            have hq256 : v240 = v256 := (show v256 = v240 by rw [hv256, eσ253, dk_up_n (show ¬ (186 = 188 ∧ n = h) by omega), hF110 186 n (by omega), eσ245, dk_up_n (show ¬ (186 = 187 ∧ n = n) by omega), eσ242, dk_up_n (show ¬ (186 = 189 ∧ n = H) by omega), hv240]).symm
                            subst hq256
                            clear htv256 hbv256
                            refine dk_iaddW (pc' := 222) hE dX11_fits_221 rfl (fun v257 hv257 _ => ?_)
                            refine pa_117 (pc' := 223) hE dX11_fits_222 is_189 (by omega) trivial rfl (fun σ258 eσ258 => ?_)
                            obtain ⟨v259, hv259⟩ : ∃ z : Int, z = n + 1 := ⟨_, rfl⟩
                            refine dk_iinc (pc' := 226) (ls' := [(4, 141), (0, a), (0, v259)]) hE dX11_fits_223 rfl hv259.symm (by omega) rfl (by decide) rfl ?_
                            refine dk_iload_n (pc' := 227) hE dX11_fits_226 rfl rfl rfl ?_
                            refine dk_aload_n (pc' := 228) hE dX11_fits_227 rfl rfl rfl ?_
                            refine gf_11_79 (pc' := 231) hE fl_X11_278 dX11_fits_228 is_141 rfl (fun v260 hv260 htv260 hbv260 => ?_)
                            have hq260 : R = v260 := (show v260 = R by rw [hv260, eσ258, dk_up_n (show ¬ (141 = 189 ∧ 79 = h) by omega), eσ253, dk_up_n (show ¬ (141 = 188 ∧ 79 = h) by omega), hF110 141 79 (by omega), eσ245, dk_up_n (show ¬ (141 = 187 ∧ 79 = n) by omega), eσ242, dk_up_n (show ¬ (141 = 189 ∧ 79 = H) by omega), eσ237, dk_up_n (show ¬ (141 = 188 ∧ 79 = H) by omega), hv161]).symm
                            subst hq260
                            clear htv260 hbv260
                            refine dk_icmp_ge (tgt := 44) (pc' := 234) hE dX11_fits_231 (by decide) rfl (fun hc261 => ?_) (fun hc261 => ?_)
                            · skip
                              exact ih44 v259 (σ258 187 v259) σ258 (by first | (have h_ := (FT_fwd (h := h) (σ' := σ258) hFT (by omega) (by omega) (by omega) (fun j_ a_ b_ => by rw [eσ258, dk_up_n (show ¬ (187 = 189 ∧ j_ = h) by omega), eσ253, dk_up_n (show ¬ (187 = 188 ∧ j_ = h) by omega), hF110 187 j_ (by omega), eσ245, dk_up_n (show ¬ (187 = 187 ∧ j_ = n) by omega), eσ242, dk_up_n (show ¬ (187 = 189 ∧ j_ = H) by omega), eσ237, dk_up_n (show ¬ (187 = 188 ∧ j_ = H) by omega)]) (by rw [eσ258, dk_up_n (show ¬ (187 = 189 ∧ n = h) by omega), eσ253, dk_up_n (show ¬ (187 = 188 ∧ n = h) by omega)]; exact hh.symm) (fun x_ => by first | (rw [show n + 1 = v259 by omega, eσ258, dk_up_s]) | (exfalso; omega))).2; rw [show v259 = n + 1 by omega]; omega) | (have h_ := (FT_back (σ' := σ258) hFT (by omega) (by omega) (by omega) (fun j_ a_ b_ => by rw [eσ258, dk_up_n (show ¬ (187 = 189 ∧ j_ = h) by omega), eσ253, dk_up_n (show ¬ (187 = 188 ∧ j_ = h) by omega), hF110 187 j_ (by omega), eσ245, dk_up_n (show ¬ (187 = 187 ∧ j_ = n) by omega), eσ242, dk_up_n (show ¬ (187 = 189 ∧ j_ = H) by omega), eσ237, dk_up_n (show ¬ (187 = 188 ∧ j_ = H) by omega)])).2; rw [show v259 = n - 1 by omega]; omega)) (fun k_ j_ h_ => by rw [eσ258, dk_up_n (show ¬ (k_ = 189 ∧ j_ = h) from fun q_ => h_ (dk_wr (lo := 187) (hi := 189) q_.1 (by decide))), eσ253, dk_up_n (show ¬ (k_ = 188 ∧ j_ = h) from fun q_ => h_ (dk_wr (lo := 187) (hi := 189) q_.1 (by decide))), hF110 k_ j_ (fun w_ => h_ (dk_wr (lo := 187) (hi := 189) w_.1 (by decide))), eσ245, dk_up_n (show ¬ (k_ = 187 ∧ j_ = n) from fun q_ => h_ (dk_wr (lo := 187) (hi := 189) q_.1 (by decide))), eσ242, dk_up_n (show ¬ (k_ = 189 ∧ j_ = H) from fun q_ => h_ (dk_wr (lo := 187) (hi := 189) q_.1 (by decide))), eσ237, dk_up_n (show ¬ (k_ = 188 ∧ j_ = H) from fun q_ => h_ (dk_wr (lo := 187) (hi := 189) q_.1 (by decide))), hF44 k_ j_ (fun w_ => h_ (w_))]) (rfl) (by first | exact ⟨by omega, by omega, fun i_ x_ y_ => by omega, fun x_ y_ => by first | (rw [eσ258, dk_up_s]; omega) | (exfalso; omega)⟩ | exact (show v259 = n + 1 by omega) ▸ (FT_fwd (h := h) (σ' := σ258) hFT (by omega) (by omega) (by omega) (fun j_ a_ b_ => by rw [eσ258, dk_up_n (show ¬ (187 = 189 ∧ j_ = h) by omega), eσ253, dk_up_n (show ¬ (187 = 188 ∧ j_ = h) by omega), hF110 187 j_ (by omega), eσ245, dk_up_n (show ¬ (187 = 187 ∧ j_ = n) by omega), eσ242, dk_up_n (show ¬ (187 = 189 ∧ j_ = H) by omega), eσ237, dk_up_n (show ¬ (187 = 188 ∧ j_ = H) by omega)]) (by rw [eσ258, dk_up_n (show ¬ (187 = 189 ∧ n = h) by omega), eσ253, dk_up_n (show ¬ (187 = 188 ∧ n = h) by omega)]; exact hh.symm) (fun x_ => by first | (rw [show n + 1 = v259 by omega, eσ258, dk_up_s]) | (exfalso; omega))).1 | exact (show v259 = n - 1 by omega) ▸ (FT_back (σ' := σ258) hFT (by omega) (by omega) (by omega) (fun j_ a_ b_ => by rw [eσ258, dk_up_n (show ¬ (187 = 189 ∧ j_ = h) by omega), eσ253, dk_up_n (show ¬ (187 = 188 ∧ j_ = h) by omega), hF110 187 j_ (by omega), eσ245, dk_up_n (show ¬ (187 = 187 ∧ j_ = n) by omega), eσ242, dk_up_n (show ¬ (187 = 189 ∧ j_ = H) by omega), eσ237, dk_up_n (show ¬ (187 = 188 ∧ j_ = H) by omega)])).1) (by first | exact (fun e_ => ⟨by omega, fun x_ => by first | (rw [eσ258, dk_up_s]) | (exfalso; omega), fun j_ x_ y_ => by first | exact hz j_ (by omega) (by omega) | (rw [eσ258, dk_up_n (by omega), dk_up_n (by omega)]; exact hz j_ (by omega) (by omega))⟩) | exact (fun e_ => by have t_ := hTR e_; have u_ := t_.2.1 (by omega); have w_ := ht e_; refine ⟨by omega, fun x_ => by first | (rw [eσ258, dk_up_s]) | (exfalso; omega), fun j_ x_ y_ => ⟨by rw [eσ258, dk_up_n (show ¬ (188 = 189 ∧ j_ = h) by omega), eσ253, dk_up_n (show ¬ (188 = 188 ∧ j_ = h) by omega), hF110 188 j_ (by omega), eσ245, dk_up_n (show ¬ (188 = 187 ∧ j_ = n) by omega), eσ242, dk_up_n (show ¬ (188 = 189 ∧ j_ = H) by omega), eσ237, dk_up_n (show ¬ (188 = 188 ∧ j_ = H) by omega)]; exact (t_.2.2 j_ (by omega) y_).1, by rw [eσ258, dk_up_n (show ¬ (189 = 189 ∧ j_ = h) by omega), eσ253, dk_up_n (show ¬ (189 = 188 ∧ j_ = h) by omega), hF110 189 j_ (by omega), eσ245, dk_up_n (show ¬ (189 = 187 ∧ j_ = n) by omega), eσ242, dk_up_n (show ¬ (189 = 189 ∧ j_ = H) by omega), eσ237, dk_up_n (show ¬ (189 = 188 ∧ j_ = H) by omega)]; exact (t_.2.2 j_ (by omega) y_).2⟩⟩) | exact (fun e_ => by have t_ := hTR e_; have u_ := t_.2.1 (by omega); exfalso; omega) | exact (fun e_ => by have w_ := ht e_; exfalso; omega))
                            · skip
                              refine dk_aload_n (pc' := 235) hE dX11_fits_234 rfl rfl rfl ?_
                              refine gf_11_76 (pc' := 238) (w := 187) hE fl_X11_152 dX11_fits_235 is_141 rfl rfl ?_
                              refine dk_iload_n (pc' := 239) hE dX11_fits_238 rfl rfl rfl ?_
                              refine dk_iconst (pc' := 240) hE dX11_fits_239 (by decide) rfl ?_
                              refine pa_115 (pc' := 241) hE dX11_fits_240 is_187 (by omega) (by omega) rfl (fun σ264 eσ264 => ?_)
                              refine dk_goto (tgt := 44) hE dX11_fits_241 (by decide) ?_
                              exact ih44 v259 (σ264 187 v259) σ264 (by first | (have h_ := (FT_fwd (h := h) (σ' := σ264) hFT (by omega) (by omega) (by omega) (fun j_ a_ b_ => by rw [eσ264, dk_up_n (show ¬ (187 = 187 ∧ j_ = v259) by omega), eσ258, dk_up_n (show ¬ (187 = 189 ∧ j_ = h) by omega), eσ253, dk_up_n (show ¬ (187 = 188 ∧ j_ = h) by omega), hF110 187 j_ (by omega), eσ245, dk_up_n (show ¬ (187 = 187 ∧ j_ = n) by omega), eσ242, dk_up_n (show ¬ (187 = 189 ∧ j_ = H) by omega), eσ237, dk_up_n (show ¬ (187 = 188 ∧ j_ = H) by omega)]) (by rw [eσ264, dk_up_n (show ¬ (187 = 187 ∧ n = v259) by omega), eσ258, dk_up_n (show ¬ (187 = 189 ∧ n = h) by omega), eσ253, dk_up_n (show ¬ (187 = 188 ∧ n = h) by omega)]; exact hh.symm) (fun x_ => by first | (rw [show n + 1 = v259 by omega, eσ264, dk_up_s]) | (exfalso; omega))).2; rw [show v259 = n + 1 by omega]; omega) | (have h_ := (FT_back (σ' := σ264) hFT (by omega) (by omega) (by omega) (fun j_ a_ b_ => by rw [eσ264, dk_up_n (show ¬ (187 = 187 ∧ j_ = v259) by omega), eσ258, dk_up_n (show ¬ (187 = 189 ∧ j_ = h) by omega), eσ253, dk_up_n (show ¬ (187 = 188 ∧ j_ = h) by omega), hF110 187 j_ (by omega), eσ245, dk_up_n (show ¬ (187 = 187 ∧ j_ = n) by omega), eσ242, dk_up_n (show ¬ (187 = 189 ∧ j_ = H) by omega), eσ237, dk_up_n (show ¬ (187 = 188 ∧ j_ = H) by omega)])).2; rw [show v259 = n - 1 by omega]; omega)) (fun k_ j_ h_ => by rw [eσ264, dk_up_n (show ¬ (k_ = 187 ∧ j_ = v259) from fun q_ => h_ (dk_wr (lo := 187) (hi := 189) q_.1 (by decide))), eσ258, dk_up_n (show ¬ (k_ = 189 ∧ j_ = h) from fun q_ => h_ (dk_wr (lo := 187) (hi := 189) q_.1 (by decide))), eσ253, dk_up_n (show ¬ (k_ = 188 ∧ j_ = h) from fun q_ => h_ (dk_wr (lo := 187) (hi := 189) q_.1 (by decide))), hF110 k_ j_ (fun w_ => h_ (dk_wr (lo := 187) (hi := 189) w_.1 (by decide))), eσ245, dk_up_n (show ¬ (k_ = 187 ∧ j_ = n) from fun q_ => h_ (dk_wr (lo := 187) (hi := 189) q_.1 (by decide))), eσ242, dk_up_n (show ¬ (k_ = 189 ∧ j_ = H) from fun q_ => h_ (dk_wr (lo := 187) (hi := 189) q_.1 (by decide))), eσ237, dk_up_n (show ¬ (k_ = 188 ∧ j_ = H) from fun q_ => h_ (dk_wr (lo := 187) (hi := 189) q_.1 (by decide))), hF44 k_ j_ (fun w_ => h_ (w_))]) (rfl) (by first | exact ⟨by omega, by omega, fun i_ x_ y_ => by omega, fun x_ y_ => by first | (rw [eσ264, dk_up_s]; omega) | (exfalso; omega)⟩ | exact (show v259 = n + 1 by omega) ▸ (FT_fwd (h := h) (σ' := σ264) hFT (by omega) (by omega) (by omega) (fun j_ a_ b_ => by rw [eσ264, dk_up_n (show ¬ (187 = 187 ∧ j_ = v259) by omega), eσ258, dk_up_n (show ¬ (187 = 189 ∧ j_ = h) by omega), eσ253, dk_up_n (show ¬ (187 = 188 ∧ j_ = h) by omega), hF110 187 j_ (by omega), eσ245, dk_up_n (show ¬ (187 = 187 ∧ j_ = n) by omega), eσ242, dk_up_n (show ¬ (187 = 189 ∧ j_ = H) by omega), eσ237, dk_up_n (show ¬ (187 = 188 ∧ j_ = H) by omega)]) (by rw [eσ264, dk_up_n (show ¬ (187 = 187 ∧ n = v259) by omega), eσ258, dk_up_n (show ¬ (187 = 189 ∧ n = h) by omega), eσ253, dk_up_n (show ¬ (187 = 188 ∧ n = h) by omega)]; exact hh.symm) (fun x_ => by first | (rw [show n + 1 = v259 by omega, eσ264, dk_up_s]) | (exfalso; omega))).1 | exact (show v259 = n - 1 by omega) ▸ (FT_back (σ' := σ264) hFT (by omega) (by omega) (by omega) (fun j_ a_ b_ => by rw [eσ264, dk_up_n (show ¬ (187 = 187 ∧ j_ = v259) by omega), eσ258, dk_up_n (show ¬ (187 = 189 ∧ j_ = h) by omega), eσ253, dk_up_n (show ¬ (187 = 188 ∧ j_ = h) by omega), hF110 187 j_ (by omega), eσ245, dk_up_n (show ¬ (187 = 187 ∧ j_ = n) by omega), eσ242, dk_up_n (show ¬ (187 = 189 ∧ j_ = H) by omega), eσ237, dk_up_n (show ¬ (187 = 188 ∧ j_ = H) by omega)])).1) (by first | exact (fun e_ => ⟨by omega, fun x_ => by first | (rw [eσ264, dk_up_s]) | (exfalso; omega), fun j_ x_ y_ => by first | exact hz j_ (by omega) (by omega) | (rw [eσ264, dk_up_n (by omega), dk_up_n (by omega)]; exact hz j_ (by omega) (by omega))⟩) | exact (fun e_ => by have t_ := hTR e_; have u_ := t_.2.1 (by omega); have w_ := ht e_; refine ⟨by omega, fun x_ => by first | (rw [eσ264, dk_up_s]) | (exfalso; omega), fun j_ x_ y_ => ⟨by rw [eσ264, dk_up_n (show ¬ (188 = 187 ∧ j_ = v259) by omega), eσ258, dk_up_n (show ¬ (188 = 189 ∧ j_ = h) by omega), eσ253, dk_up_n (show ¬ (188 = 188 ∧ j_ = h) by omega), hF110 188 j_ (by omega), eσ245, dk_up_n (show ¬ (188 = 187 ∧ j_ = n) by omega), eσ242, dk_up_n (show ¬ (188 = 189 ∧ j_ = H) by omega), eσ237, dk_up_n (show ¬ (188 = 188 ∧ j_ = H) by omega)]; exact (t_.2.2 j_ (by omega) y_).1, by rw [eσ264, dk_up_n (show ¬ (189 = 187 ∧ j_ = v259) by omega), eσ258, dk_up_n (show ¬ (189 = 189 ∧ j_ = h) by omega), eσ253, dk_up_n (show ¬ (189 = 188 ∧ j_ = h) by omega), hF110 189 j_ (by omega), eσ245, dk_up_n (show ¬ (189 = 187 ∧ j_ = n) by omega), eσ242, dk_up_n (show ¬ (189 = 189 ∧ j_ = H) by omega), eσ237, dk_up_n (show ¬ (189 = 188 ∧ j_ = H) by omega)]; exact (t_.2.2 j_ (by omega) y_).2⟩⟩) | exact (fun e_ => by have t_ := hTR e_; have u_ := t_.2.1 (by omega); exfalso; omega) | exact (fun e_ => by have w_ := ht e_; exfalso; omega))
                          · skip
                            obtain ⟨v267, hv267⟩ : ∃ z : Int, z = n + (-1) := ⟨_, rfl⟩
                            refine dk_iinc (pc' := 185) (ls' := [(4, 141), (0, a), (0, v267)]) hE dX11_fits_182 rfl hv267.symm (by omega) rfl (by decide) rfl ?_
                            refine dk_goto (tgt := 44) hE dX11_fits_185 (by decide) ?_
                            exact ih44 v267 (σ110c 187 v267) σ110c (by first | (have h_ := (FT_fwd (h := h) (σ' := σ110c) hFT (by omega) (by omega) (by omega) (fun j_ a_ b_ => by rw [hF110 187 j_ (by omega), eσ245, dk_up_n (show ¬ (187 = 187 ∧ j_ = n) by omega), eσ242, dk_up_n (show ¬ (187 = 189 ∧ j_ = H) by omega), eσ237, dk_up_n (show ¬ (187 = 188 ∧ j_ = H) by omega)]) (by rw []; exact hh.symm) (fun x_ => by first | (rw [show n + 1 = v267 by omega, rfl, dk_up_s]) | (exfalso; omega))).2; rw [show v267 = n + 1 by omega]; omega) | (have h_ := (FT_back (σ' := σ110c) hFT (by omega) (by omega) (by omega) (fun j_ a_ b_ => by rw [hF110 187 j_ (by omega), eσ245, dk_up_n (show ¬ (187 = 187 ∧ j_ = n) by omega), eσ242, dk_up_n (show ¬ (187 = 189 ∧ j_ = H) by omega), eσ237, dk_up_n (show ¬ (187 = 188 ∧ j_ = H) by omega)])).2; rw [show v267 = n - 1 by omega]; omega)) (fun k_ j_ h_ => by rw [hF110 k_ j_ (fun w_ => h_ (dk_wr (lo := 187) (hi := 189) w_.1 (by decide))), eσ245, dk_up_n (show ¬ (k_ = 187 ∧ j_ = n) from fun q_ => h_ (dk_wr (lo := 187) (hi := 189) q_.1 (by decide))), eσ242, dk_up_n (show ¬ (k_ = 189 ∧ j_ = H) from fun q_ => h_ (dk_wr (lo := 187) (hi := 189) q_.1 (by decide))), eσ237, dk_up_n (show ¬ (k_ = 188 ∧ j_ = H) from fun q_ => h_ (dk_wr (lo := 187) (hi := 189) q_.1 (by decide))), hF44 k_ j_ (fun w_ => h_ (w_))]) (rfl) (by first | exact ⟨by omega, by omega, fun i_ x_ y_ => by omega, fun x_ y_ => by first | (rw [rfl, dk_up_s]; omega) | (exfalso; omega)⟩ | exact (show v267 = n + 1 by omega) ▸ (FT_fwd (h := h) (σ' := σ110c) hFT (by omega) (by omega) (by omega) (fun j_ a_ b_ => by rw [hF110 187 j_ (by omega), eσ245, dk_up_n (show ¬ (187 = 187 ∧ j_ = n) by omega), eσ242, dk_up_n (show ¬ (187 = 189 ∧ j_ = H) by omega), eσ237, dk_up_n (show ¬ (187 = 188 ∧ j_ = H) by omega)]) (by rw []; exact hh.symm) (fun x_ => by first | (rw [show n + 1 = v267 by omega, rfl, dk_up_s]) | (exfalso; omega))).1 | exact (show v267 = n - 1 by omega) ▸ (FT_back (σ' := σ110c) hFT (by omega) (by omega) (by omega) (fun j_ a_ b_ => by rw [hF110 187 j_ (by omega), eσ245, dk_up_n (show ¬ (187 = 187 ∧ j_ = n) by omega), eσ242, dk_up_n (show ¬ (187 = 189 ∧ j_ = H) by omega), eσ237, dk_up_n (show ¬ (187 = 188 ∧ j_ = H) by omega)])).1) (by first | exact (fun e_ => ⟨by omega, fun x_ => by first | (rw [rfl, dk_up_s]) | (exfalso; omega), fun j_ x_ y_ => by first | exact hz j_ (by omega) (by omega) | (rw [rfl, dk_up_n (by omega), dk_up_n (by omega)]; exact hz j_ (by omega) (by omega))⟩) | exact (fun e_ => by have t_ := hTR e_; have u_ := t_.2.1 (by omega); have w_ := ht e_; refine ⟨by omega, fun x_ => by first | (rw [rfl, dk_up_s]) | (exfalso; omega), fun j_ x_ y_ => ⟨by rw [hF110 188 j_ (by omega), eσ245, dk_up_n (show ¬ (188 = 187 ∧ j_ = n) by omega), eσ242, dk_up_n (show ¬ (188 = 189 ∧ j_ = H) by omega), eσ237, dk_up_n (show ¬ (188 = 188 ∧ j_ = H) by omega)]; exact (t_.2.2 j_ (by omega) y_).1, by rw [hF110 189 j_ (by omega), eσ245, dk_up_n (show ¬ (189 = 187 ∧ j_ = n) by omega), eσ242, dk_up_n (show ¬ (189 = 189 ∧ j_ = H) by omega), eσ237, dk_up_n (show ¬ (189 = 188 ∧ j_ = H) by omega)]; exact (t_.2.2 j_ (by omega) y_).2⟩⟩) | exact (fun e_ => by have t_ := hTR e_; have u_ := t_.2.1 (by omega); exfalso; omega) | exact (fun e_ => by have w_ := ht e_; exfalso; omega))
                        · skip
                          refine dk_aload_n (pc' := 121) hE dX11_fits_120 rfl rfl rfl ?_
                          refine gf_11_77 (pc' := 124) (w := 188) hE fl_X11_155 dX11_fits_121 is_141 rfl rfl ?_
                          refine dk_aload_n (pc' := 125) hE dX11_fits_124 rfl rfl rfl ?_
                          refine gf_11_76 (pc' := 128) (w := 187) hE fl_X11_152 dX11_fits_125 is_141 rfl rfl ?_
                          refine dk_iload_n (pc' := 129) hE dX11_fits_128 rfl rfl rfl ?_
                          refine ga_115 (pc' := 130) hE dX11_fits_129 is_187 (by omega) rfl (fun v270 hv270 htv270 hbv270 => ?_)
                          have hq270 : h = v270 := (show v270 = h by rw [hv270, hv246]).symm
                          subst hq270
                          clear htv270 hbv270
                          refine ga_116 (pc' := 131) hE dX11_fits_130 is_188 (by omega) rfl (fun v271 hv271 htv271 hbv271 => ?_)
                          have hq130 : R ≤ a → n ≤ h → v271 = 0 := fun e_ l_ => by have t_ := (hTR e_).2.2 h l_ (by omega); have u_ := (hTR e_).2.1 (by omega); rw [hv271, hF110 188 h (by omega), eσ245, dk_up_n (show ¬ (188 = 187 ∧ h = n) by omega), eσ242, dk_up_n (show ¬ (188 = 189 ∧ h = H) by omega), eσ237, dk_up_n (show ¬ (188 = 188 ∧ h = H) by omega)]; exact t_.1
                          refine dk_aload_n (pc' := 132) hE dX11_fits_131 rfl rfl rfl ?_
                          refine gf_11_80 (pc' := 135) hE fl_X11_161 dX11_fits_132 is_141 rfl (fun v272 hv272 htv272 hbv272 => ?_)
                          refine dk_icmp_eq (tgt := 159) (pc' := 138) hE dX11_fits_135 (by decide) rfl (fun hc273 => ?_) (fun hc273 => ?_)
                          · skip
                            refine dk_aload_n (pc' := 160) hE dX11_fits_159 rfl rfl rfl ?_
                            refine gf_11_76 (pc' := 163) (w := 187) hE fl_X11_152 dX11_fits_160 is_141 rfl rfl ?_
                            refine dk_iload_n (pc' := 164) hE dX11_fits_163 rfl rfl rfl ?_
                            refine dk_dup2 (pc' := 165) hE dX11_fits_164 (show (0 : Nat) ≠ 3 by decide) (show (4 : Nat) ≠ 3 by decide) rfl ?_
                            refine ga_115 (pc' := 166) hE dX11_fits_165 is_187 (by omega) rfl (fun v274 hv274 htv274 hbv274 => ?_)
                            have hq274 : h = v274 := (show v274 = h by rw [hv274, hv270]).symm
                            subst hq274
                            clear htv274 hbv274
                            refine dk_iconst (pc' := 167) hE dX11_fits_166 (by decide) rfl ?_
                            obtain ⟨v275, hv275⟩ : ∃ z : Int, z = h + 1 := ⟨_, rfl⟩
                            refine dk_iadd (pc' := 168) hE dX11_fits_167 hv275.symm (by omega) rfl ?_
                            refine pa_115 (pc' := 169) hE dX11_fits_168 is_187 (by omega) (by omega) rfl (fun σ276 eσ276 => ?_)
                            refine dk_goto (tgt := 110) hE dX11_fits_169 (by decide) ?_
                            have hz276_187_n : σ276 187 n = v275 := by rw [eσ276, dk_up_s]
                            exact ih110 (σ276 187 n) σ276 (by omega) (fun k_ j_ h_ => by rw [eσ276, dk_up_n (show ¬ (k_ = 187 ∧ j_ = n) from fun q_ => h_ (q_)), hF110 k_ j_ (fun w_ => h_ (w_))]) (rfl) (by omega) (fun e_ => by have t_ := hTR e_; have u_ := t_.2.1 (by omega); omega)
                          · skip
                            refine dk_aload_n (pc' := 139) hE dX11_fits_138 rfl rfl rfl ?_
                            refine gf_11_78 (pc' := 142) (w := 189) hE fl_X11_158 dX11_fits_139 is_141 rfl rfl ?_
                            refine dk_aload_n (pc' := 143) hE dX11_fits_142 rfl rfl rfl ?_
                            refine gf_11_76 (pc' := 146) (w := 187) hE fl_X11_152 dX11_fits_143 is_141 rfl rfl ?_
                            refine dk_iload_n (pc' := 147) hE dX11_fits_146 rfl rfl rfl ?_
                            refine ga_115 (pc' := 148) hE dX11_fits_147 is_187 (by omega) rfl (fun v278 hv278 htv278 hbv278 => ?_)
                            have hq278 : h = v278 := (show v278 = h by rw [hv278, hv270]).symm
                            subst hq278
                            clear htv278 hbv278
                            refine ga_117 (pc' := 149) hE dX11_fits_148 is_189 (by omega) rfl (fun v279 hv279 htv279 hbv279 => ?_)
                            have hq148 : R ≤ a → n ≤ h → v279 = 0 := fun e_ l_ => by have t_ := (hTR e_).2.2 h l_ (by omega); have u_ := (hTR e_).2.1 (by omega); rw [hv279, hF110 189 h (by omega), eσ245, dk_up_n (show ¬ (189 = 187 ∧ h = n) by omega), eσ242, dk_up_n (show ¬ (189 = 189 ∧ h = H) by omega), eσ237, dk_up_n (show ¬ (189 = 188 ∧ h = H) by omega)]; exact t_.2
                            refine dk_aload_n (pc' := 150) hE dX11_fits_149 rfl rfl rfl ?_
                            refine gf_11_75 (pc' := 153) (w := 186) hE fl_X11_149 dX11_fits_150 is_141 rfl rfl ?_
                            refine dk_iload_n (pc' := 154) hE dX11_fits_153 rfl rfl rfl ?_
                            refine ga_114 (pc' := 155) hE dX11_fits_154 is_186 (by omega) rfl (fun v280 hv280 htv280 hbv280 => ?_)
                            have hq280 : v240 = v280 := (show v280 = v240 by rw [hv280, hF110 186 n (by omega), eσ245, dk_up_n (show ¬ (186 = 187 ∧ n = n) by omega), eσ242, dk_up_n (show ¬ (186 = 189 ∧ n = H) by omega), hv240]).symm
                            subst hq280
                            clear htv280 hbv280
                            refine dk_iand (pc' := 156) hE dX11_fits_155 rfl (fun v281 hv281 ev281 => ?_)
                            have hq155 : v279 = 0 → v281 = 0 := fun e_ => by rw [ev281, e_]; exact dk_and0
                            refine dk_if_eq (tgt := 172) (pc' := 159) hE dX11_fits_156 (by decide) rfl (fun hc282 => ?_) (fun hc282 => ?_)
                            · skip
                              refine dk_aload_n (pc' := 173) hE dX11_fits_172 rfl rfl rfl ?_
                              refine gf_11_76 (pc' := 176) (w := 187) hE fl_X11_152 dX11_fits_173 is_141 rfl rfl ?_
                              refine dk_iload_n (pc' := 177) hE dX11_fits_176 rfl rfl rfl ?_
                              refine ga_115 (pc' := 178) hE dX11_fits_177 is_187 (by omega) rfl (fun v283 hv283 htv283 hbv283 => ?_)
                              have hq283 : h = v283 := (show v283 = h by rw [hv283, hv278]).symm
                              subst hq283
                              clear htv283 hbv283
                              refine dk_iload_n (pc' := 179) hE dX11_fits_178 rfl rfl rfl ?_
                              refine dk_icmp_ne (tgt := 188) (pc' := 182) hE dX11_fits_179 (by decide) rfl (fun hc284 => ?_) (fun hc284 => ?_)
                              · skip
                                refine dk_aload_n (pc' := 189) hE dX11_fits_188 rfl rfl rfl ?_
                                refine gf_11_77 (pc' := 192) (w := 188) hE fl_X11_155 dX11_fits_189 is_141 rfl rfl ?_
                                refine dk_aload_n (pc' := 193) hE dX11_fits_192 rfl rfl rfl ?_
                                refine gf_11_76 (pc' := 196) (w := 187) hE fl_X11_152 dX11_fits_193 is_141 rfl rfl ?_
                                refine dk_iload_n (pc' := 197) hE dX11_fits_196 rfl rfl rfl ?_
                                refine ga_115 (pc' := 198) hE dX11_fits_197 is_187 (by omega) rfl (fun v285 hv285 htv285 hbv285 => ?_)
                                have hq285 : h = v285 := (show v285 = h by rw [hv285, hv283]).symm
                                subst hq285
                                clear htv285 hbv285
                                refine dk_dup2 (pc' := 199) hE dX11_fits_198 (show (0 : Nat) ≠ 3 by decide) (show (4 : Nat) ≠ 3 by decide) rfl ?_
                                refine ga_116 (pc' := 200) hE dX11_fits_199 is_188 (by omega) rfl (fun v286 hv286 htv286 hbv286 => ?_)
                                have hq286 : v271 = v286 := (show v286 = v271 by rw [hv286, hv271]).symm
                                subst hq286
                                clear htv286 hbv286
                                refine dk_iconst (pc' := 201) hE dX11_fits_200 (by decide) rfl ?_
                                refine dk_iaddW (pc' := 202) hE dX11_fits_201 rfl (fun v287 hv287 _ => ?_)
                                refine pa_116 (pc' := 203) hE dX11_fits_202 is_188 (by omega) trivial rfl (fun σ288 eσ288 => ?_)
                                refine dk_aload_n (pc' := 204) hE dX11_fits_203 rfl rfl rfl ?_
                                refine gf_11_78 (pc' := 207) (w := 189) hE fl_X11_158 dX11_fits_204 is_141 rfl rfl ?_
                                refine dk_aload_n (pc' := 208) hE dX11_fits_207 rfl rfl rfl ?_
                                refine gf_11_76 (pc' := 211) (w := 187) hE fl_X11_152 dX11_fits_208 is_141 rfl rfl ?_
                                refine dk_iload_n (pc' := 212) hE dX11_fits_211 rfl rfl rfl ?_
                                refine ga_115 (pc' := 213) hE dX11_fits_212 is_187 (by omega) rfl (fun v289 hv289 htv289 hbv289 => ?_)
                                have hq289 : h = v289 := (show v289 = h by rw [hv289, eσ288, dk_up_n (show ¬ (187 = 188 ∧ n = h) by omega), hv285]).symm
                                subst hq289
                                clear htv289 hbv289
                                refine dk_dup2 (pc' := 214) hE dX11_fits_213 (show (0 : Nat) ≠ 3 by decide) (show (4 : Nat) ≠ 3 by decide) rfl ?_
                                refine ga_117 (pc' := 215) hE dX11_fits_214 is_189 (by omega) rfl (fun v290 hv290 htv290 hbv290 => ?_)
                                have hq290 : v279 = v290 := (show v290 = v279 by rw [hv290, eσ288, dk_up_n (show ¬ (189 = 188 ∧ h = h) by omega), hv279]).symm
                                subst hq290
                                clear htv290 hbv290
                                refine dk_aload_n (pc' := 216) hE dX11_fits_215 rfl rfl rfl ?_
                                refine gf_11_75 (pc' := 219) (w := 186) hE fl_X11_149 dX11_fits_216 is_141 rfl rfl ?_
                                refine dk_iload_n (pc' := 220) hE dX11_fits_219 rfl rfl rfl ?_
                                refine ga_114 (pc' := 221) hE dX11_fits_220 is_186 (by omega) rfl (fun v291 hv291 htv291 hbv291 => ?_)
                                have hq291 : v240 = v291 := (show v291 = v240 by rw [hv291, eσ288, dk_up_n (show ¬ (186 = 188 ∧ n = h) by omega), hv280]).symm
                                subst hq291
                                clear htv291 hbv291
                                refine dk_iaddW (pc' := 222) hE dX11_fits_221 rfl (fun v292 hv292 _ => ?_)
                                refine pa_117 (pc' := 223) hE dX11_fits_222 is_189 (by omega) trivial rfl (fun σ293 eσ293 => ?_)
                                obtain ⟨v294, hv294⟩ : ∃ z : Int, z = n + 1 := ⟨_, rfl⟩
                                refine dk_iinc (pc' := 226) (ls' := [(4, 141), (0, a), (0, v294)]) hE dX11_fits_223 rfl hv294.symm (by omega) rfl (by decide) rfl ?_
                                refine dk_iload_n (pc' := 227) hE dX11_fits_226 rfl rfl rfl ?_
                                refine dk_aload_n (pc' := 228) hE dX11_fits_227 rfl rfl rfl ?_
                                refine gf_11_79 (pc' := 231) hE fl_X11_278 dX11_fits_228 is_141 rfl (fun v295 hv295 htv295 hbv295 => ?_)
                                have hq295 : R = v295 := (show v295 = R by rw [hv295, eσ293, dk_up_n (show ¬ (141 = 189 ∧ 79 = h) by omega), eσ288, dk_up_n (show ¬ (141 = 188 ∧ 79 = h) by omega), hF110 141 79 (by omega), eσ245, dk_up_n (show ¬ (141 = 187 ∧ 79 = n) by omega), eσ242, dk_up_n (show ¬ (141 = 189 ∧ 79 = H) by omega), eσ237, dk_up_n (show ¬ (141 = 188 ∧ 79 = H) by omega), hv161]).symm
                                subst hq295
                                clear htv295 hbv295
                                refine dk_icmp_ge (tgt := 44) (pc' := 234) hE dX11_fits_231 (by decide) rfl (fun hc296 => ?_) (fun hc296 => ?_)
                                · skip
                                  exact ih44 v294 (σ293 187 v294) σ293 (by first | (have h_ := (FT_fwd (h := h) (σ' := σ293) hFT (by omega) (by omega) (by omega) (fun j_ a_ b_ => by rw [eσ293, dk_up_n (show ¬ (187 = 189 ∧ j_ = h) by omega), eσ288, dk_up_n (show ¬ (187 = 188 ∧ j_ = h) by omega), hF110 187 j_ (by omega), eσ245, dk_up_n (show ¬ (187 = 187 ∧ j_ = n) by omega), eσ242, dk_up_n (show ¬ (187 = 189 ∧ j_ = H) by omega), eσ237, dk_up_n (show ¬ (187 = 188 ∧ j_ = H) by omega)]) (by rw [eσ293, dk_up_n (show ¬ (187 = 189 ∧ n = h) by omega), eσ288, dk_up_n (show ¬ (187 = 188 ∧ n = h) by omega)]; exact hh.symm) (fun x_ => by first | (rw [show n + 1 = v294 by omega, eσ293, dk_up_s]) | (exfalso; omega))).2; rw [show v294 = n + 1 by omega]; omega) | (have h_ := (FT_back (σ' := σ293) hFT (by omega) (by omega) (by omega) (fun j_ a_ b_ => by rw [eσ293, dk_up_n (show ¬ (187 = 189 ∧ j_ = h) by omega), eσ288, dk_up_n (show ¬ (187 = 188 ∧ j_ = h) by omega), hF110 187 j_ (by omega), eσ245, dk_up_n (show ¬ (187 = 187 ∧ j_ = n) by omega), eσ242, dk_up_n (show ¬ (187 = 189 ∧ j_ = H) by omega), eσ237, dk_up_n (show ¬ (187 = 188 ∧ j_ = H) by omega)])).2; rw [show v294 = n - 1 by omega]; omega)) (fun k_ j_ h_ => by rw [eσ293, dk_up_n (show ¬ (k_ = 189 ∧ j_ = h) from fun q_ => h_ (dk_wr (lo := 187) (hi := 189) q_.1 (by decide))), eσ288, dk_up_n (show ¬ (k_ = 188 ∧ j_ = h) from fun q_ => h_ (dk_wr (lo := 187) (hi := 189) q_.1 (by decide))), hF110 k_ j_ (fun w_ => h_ (dk_wr (lo := 187) (hi := 189) w_.1 (by decide))), eσ245, dk_up_n (show ¬ (k_ = 187 ∧ j_ = n) from fun q_ => h_ (dk_wr (lo := 187) (hi := 189) q_.1 (by decide))), eσ242, dk_up_n (show ¬ (k_ = 189 ∧ j_ = H) from fun q_ => h_ (dk_wr (lo := 187) (hi := 189) q_.1 (by decide))), eσ237, dk_up_n (show ¬ (k_ = 188 ∧ j_ = H) from fun q_ => h_ (dk_wr (lo := 187) (hi := 189) q_.1 (by decide))), hF44 k_ j_ (fun w_ => h_ (w_))]) (rfl) (by first | exact ⟨by omega, by omega, fun i_ x_ y_ => by omega, fun x_ y_ => by first | (rw [eσ293, dk_up_s]; omega) | (exfalso; omega)⟩ | exact (show v294 = n + 1 by omega) ▸ (FT_fwd (h := h) (σ' := σ293) hFT (by omega) (by omega) (by omega) (fun j_ a_ b_ => by rw [eσ293, dk_up_n (show ¬ (187 = 189 ∧ j_ = h) by omega), eσ288, dk_up_n (show ¬ (187 = 188 ∧ j_ = h) by omega), hF110 187 j_ (by omega), eσ245, dk_up_n (show ¬ (187 = 187 ∧ j_ = n) by omega), eσ242, dk_up_n (show ¬ (187 = 189 ∧ j_ = H) by omega), eσ237, dk_up_n (show ¬ (187 = 188 ∧ j_ = H) by omega)]) (by rw [eσ293, dk_up_n (show ¬ (187 = 189 ∧ n = h) by omega), eσ288, dk_up_n (show ¬ (187 = 188 ∧ n = h) by omega)]; exact hh.symm) (fun x_ => by first | (rw [show n + 1 = v294 by omega, eσ293, dk_up_s]) | (exfalso; omega))).1 | exact (show v294 = n - 1 by omega) ▸ (FT_back (σ' := σ293) hFT (by omega) (by omega) (by omega) (fun j_ a_ b_ => by rw [eσ293, dk_up_n (show ¬ (187 = 189 ∧ j_ = h) by omega), eσ288, dk_up_n (show ¬ (187 = 188 ∧ j_ = h) by omega), hF110 187 j_ (by omega), eσ245, dk_up_n (show ¬ (187 = 187 ∧ j_ = n) by omega), eσ242, dk_up_n (show ¬ (187 = 189 ∧ j_ = H) by omega), eσ237, dk_up_n (show ¬ (187 = 188 ∧ j_ = H) by omega)])).1) (by first | exact (fun e_ => ⟨by omega, fun x_ => by first | (rw [eσ293, dk_up_s]) | (exfalso; omega), fun j_ x_ y_ => by first | exact hz j_ (by omega) (by omega) | (rw [eσ293, dk_up_n (by omega), dk_up_n (by omega)]; exact hz j_ (by omega) (by omega))⟩) | exact (fun e_ => by have t_ := hTR e_; have u_ := t_.2.1 (by omega); have w_ := ht e_; refine ⟨by omega, fun x_ => by first | (rw [eσ293, dk_up_s]) | (exfalso; omega), fun j_ x_ y_ => ⟨by rw [eσ293, dk_up_n (show ¬ (188 = 189 ∧ j_ = h) by omega), eσ288, dk_up_n (show ¬ (188 = 188 ∧ j_ = h) by omega), hF110 188 j_ (by omega), eσ245, dk_up_n (show ¬ (188 = 187 ∧ j_ = n) by omega), eσ242, dk_up_n (show ¬ (188 = 189 ∧ j_ = H) by omega), eσ237, dk_up_n (show ¬ (188 = 188 ∧ j_ = H) by omega)]; exact (t_.2.2 j_ (by omega) y_).1, by rw [eσ293, dk_up_n (show ¬ (189 = 189 ∧ j_ = h) by omega), eσ288, dk_up_n (show ¬ (189 = 188 ∧ j_ = h) by omega), hF110 189 j_ (by omega), eσ245, dk_up_n (show ¬ (189 = 187 ∧ j_ = n) by omega), eσ242, dk_up_n (show ¬ (189 = 189 ∧ j_ = H) by omega), eσ237, dk_up_n (show ¬ (189 = 188 ∧ j_ = H) by omega)]; exact (t_.2.2 j_ (by omega) y_).2⟩⟩) | exact (fun e_ => by have t_ := hTR e_; have u_ := t_.2.1 (by omega); exfalso; omega) | exact (fun e_ => by have w_ := ht e_; exfalso; omega))
                                · skip
                                  refine dk_aload_n (pc' := 235) hE dX11_fits_234 rfl rfl rfl ?_
                                  refine gf_11_76 (pc' := 238) (w := 187) hE fl_X11_152 dX11_fits_235 is_141 rfl rfl ?_
                                  refine dk_iload_n (pc' := 239) hE dX11_fits_238 rfl rfl rfl ?_
                                  refine dk_iconst (pc' := 240) hE dX11_fits_239 (by decide) rfl ?_
                                  refine pa_115 (pc' := 241) hE dX11_fits_240 is_187 (by omega) (by omega) rfl (fun σ299 eσ299 => ?_)
                                  refine dk_goto (tgt := 44) hE dX11_fits_241 (by decide) ?_
                                  exact ih44 v294 (σ299 187 v294) σ299 (by first | (have h_ := (FT_fwd (h := h) (σ' := σ299) hFT (by omega) (by omega) (by omega) (fun j_ a_ b_ => by rw [eσ299, dk_up_n (show ¬ (187 = 187 ∧ j_ = v294) by omega), eσ293, dk_up_n (show ¬ (187 = 189 ∧ j_ = h) by omega), eσ288, dk_up_n (show ¬ (187 = 188 ∧ j_ = h) by omega), hF110 187 j_ (by omega), eσ245, dk_up_n (show ¬ (187 = 187 ∧ j_ = n) by omega), eσ242, dk_up_n (show ¬ (187 = 189 ∧ j_ = H) by omega), eσ237, dk_up_n (show ¬ (187 = 188 ∧ j_ = H) by omega)]) (by rw [eσ299, dk_up_n (show ¬ (187 = 187 ∧ n = v294) by omega), eσ293, dk_up_n (show ¬ (187 = 189 ∧ n = h) by omega), eσ288, dk_up_n (show ¬ (187 = 188 ∧ n = h) by omega)]; exact hh.symm) (fun x_ => by first | (rw [show n + 1 = v294 by omega, eσ299, dk_up_s]) | (exfalso; omega))).2; rw [show v294 = n + 1 by omega]; omega) | (have h_ := (FT_back (σ' := σ299) hFT (by omega) (by omega) (by omega) (fun j_ a_ b_ => by rw [eσ299, dk_up_n (show ¬ (187 = 187 ∧ j_ = v294) by omega), eσ293, dk_up_n (show ¬ (187 = 189 ∧ j_ = h) by omega), eσ288, dk_up_n (show ¬ (187 = 188 ∧ j_ = h) by omega), hF110 187 j_ (by omega), eσ245, dk_up_n (show ¬ (187 = 187 ∧ j_ = n) by omega), eσ242, dk_up_n (show ¬ (187 = 189 ∧ j_ = H) by omega), eσ237, dk_up_n (show ¬ (187 = 188 ∧ j_ = H) by omega)])).2; rw [show v294 = n - 1 by omega]; omega)) (fun k_ j_ h_ => by rw [eσ299, dk_up_n (show ¬ (k_ = 187 ∧ j_ = v294) from fun q_ => h_ (dk_wr (lo := 187) (hi := 189) q_.1 (by decide))), eσ293, dk_up_n (show ¬ (k_ = 189 ∧ j_ = h) from fun q_ => h_ (dk_wr (lo := 187) (hi := 189) q_.1 (by decide))), eσ288, dk_up_n (show ¬ (k_ = 188 ∧ j_ = h) from fun q_ => h_ (dk_wr (lo := 187) (hi := 189) q_.1 (by decide))), hF110 k_ j_ (fun w_ => h_ (dk_wr (lo := 187) (hi := 189) w_.1 (by decide))), eσ245, dk_up_n (show ¬ (k_ = 187 ∧ j_ = n) from fun q_ => h_ (dk_wr (lo := 187) (hi := 189) q_.1 (by decide))), eσ242, dk_up_n (show ¬ (k_ = 189 ∧ j_ = H) from fun q_ => h_ (dk_wr (lo := 187) (hi := 189) q_.1 (by decide))), eσ237, dk_up_n (show ¬ (k_ = 188 ∧ j_ = H) from fun q_ => h_ (dk_wr (lo := 187) (hi := 189) q_.1 (by decide))), hF44 k_ j_ (fun w_ => h_ (w_))]) (rfl) (by first | exact ⟨by omega, by omega, fun i_ x_ y_ => by omega, fun x_ y_ => by first | (rw [eσ299, dk_up_s]; omega) | (exfalso; omega)⟩ | exact (show v294 = n + 1 by omega) ▸ (FT_fwd (h := h) (σ' := σ299) hFT (by omega) (by omega) (by omega) (fun j_ a_ b_ => by rw [eσ299, dk_up_n (show ¬ (187 = 187 ∧ j_ = v294) by omega), eσ293, dk_up_n (show ¬ (187 = 189 ∧ j_ = h) by omega), eσ288, dk_up_n (show ¬ (187 = 188 ∧ j_ = h) by omega), hF110 187 j_ (by omega), eσ245, dk_up_n (show ¬ (187 = 187 ∧ j_ = n) by omega), eσ242, dk_up_n (show ¬ (187 = 189 ∧ j_ = H) by omega), eσ237, dk_up_n (show ¬ (187 = 188 ∧ j_ = H) by omega)]) (by rw [eσ299, dk_up_n (show ¬ (187 = 187 ∧ n = v294) by omega), eσ293, dk_up_n (show ¬ (187 = 189 ∧ n = h) by omega), eσ288, dk_up_n (show ¬ (187 = 188 ∧ n = h) by omega)]; exact hh.symm) (fun x_ => by first | (rw [show n + 1 = v294 by omega, eσ299, dk_up_s]) | (exfalso; omega))).1 | exact (show v294 = n - 1 by omega) ▸ (FT_back (σ' := σ299) hFT (by omega) (by omega) (by omega) (fun j_ a_ b_ => by rw [eσ299, dk_up_n (show ¬ (187 = 187 ∧ j_ = v294) by omega), eσ293, dk_up_n (show ¬ (187 = 189 ∧ j_ = h) by omega), eσ288, dk_up_n (show ¬ (187 = 188 ∧ j_ = h) by omega), hF110 187 j_ (by omega), eσ245, dk_up_n (show ¬ (187 = 187 ∧ j_ = n) by omega), eσ242, dk_up_n (show ¬ (187 = 189 ∧ j_ = H) by omega), eσ237, dk_up_n (show ¬ (187 = 188 ∧ j_ = H) by omega)])).1) (by first | exact (fun e_ => ⟨by omega, fun x_ => by first | (rw [eσ299, dk_up_s]) | (exfalso; omega), fun j_ x_ y_ => by first | exact hz j_ (by omega) (by omega) | (rw [eσ299, dk_up_n (by omega), dk_up_n (by omega)]; exact hz j_ (by omega) (by omega))⟩) | exact (fun e_ => by have t_ := hTR e_; have u_ := t_.2.1 (by omega); have w_ := ht e_; refine ⟨by omega, fun x_ => by first | (rw [eσ299, dk_up_s]) | (exfalso; omega), fun j_ x_ y_ => ⟨by rw [eσ299, dk_up_n (show ¬ (188 = 187 ∧ j_ = v294) by omega), eσ293, dk_up_n (show ¬ (188 = 189 ∧ j_ = h) by omega), eσ288, dk_up_n (show ¬ (188 = 188 ∧ j_ = h) by omega), hF110 188 j_ (by omega), eσ245, dk_up_n (show ¬ (188 = 187 ∧ j_ = n) by omega), eσ242, dk_up_n (show ¬ (188 = 189 ∧ j_ = H) by omega), eσ237, dk_up_n (show ¬ (188 = 188 ∧ j_ = H) by omega)]; exact (t_.2.2 j_ (by omega) y_).1, by rw [eσ299, dk_up_n (show ¬ (189 = 187 ∧ j_ = v294) by omega), eσ293, dk_up_n (show ¬ (189 = 189 ∧ j_ = h) by omega), eσ288, dk_up_n (show ¬ (189 = 188 ∧ j_ = h) by omega), hF110 189 j_ (by omega), eσ245, dk_up_n (show ¬ (189 = 187 ∧ j_ = n) by omega), eσ242, dk_up_n (show ¬ (189 = 189 ∧ j_ = H) by omega), eσ237, dk_up_n (show ¬ (189 = 188 ∧ j_ = H) by omega)]; exact (t_.2.2 j_ (by omega) y_).2⟩⟩) | exact (fun e_ => by have t_ := hTR e_; have u_ := t_.2.1 (by omega); exfalso; omega) | exact (fun e_ => by have w_ := ht e_; exfalso; omega))
                              · skip
                                obtain ⟨v302, hv302⟩ : ∃ z : Int, z = n + (-1) := ⟨_, rfl⟩
                                refine dk_iinc (pc' := 185) (ls' := [(4, 141), (0, a), (0, v302)]) hE dX11_fits_182 rfl hv302.symm (by omega) rfl (by decide) rfl ?_
                                refine dk_goto (tgt := 44) hE dX11_fits_185 (by decide) ?_
                                exact ih44 v302 (σ110c 187 v302) σ110c (by first | (have h_ := (FT_fwd (h := h) (σ' := σ110c) hFT (by omega) (by omega) (by omega) (fun j_ a_ b_ => by rw [hF110 187 j_ (by omega), eσ245, dk_up_n (show ¬ (187 = 187 ∧ j_ = n) by omega), eσ242, dk_up_n (show ¬ (187 = 189 ∧ j_ = H) by omega), eσ237, dk_up_n (show ¬ (187 = 188 ∧ j_ = H) by omega)]) (by rw []; exact hh.symm) (fun x_ => by first | (rw [show n + 1 = v302 by omega, rfl, dk_up_s]) | (exfalso; omega))).2; rw [show v302 = n + 1 by omega]; omega) | (have h_ := (FT_back (σ' := σ110c) hFT (by omega) (by omega) (by omega) (fun j_ a_ b_ => by rw [hF110 187 j_ (by omega), eσ245, dk_up_n (show ¬ (187 = 187 ∧ j_ = n) by omega), eσ242, dk_up_n (show ¬ (187 = 189 ∧ j_ = H) by omega), eσ237, dk_up_n (show ¬ (187 = 188 ∧ j_ = H) by omega)])).2; rw [show v302 = n - 1 by omega]; omega)) (fun k_ j_ h_ => by rw [hF110 k_ j_ (fun w_ => h_ (dk_wr (lo := 187) (hi := 189) w_.1 (by decide))), eσ245, dk_up_n (show ¬ (k_ = 187 ∧ j_ = n) from fun q_ => h_ (dk_wr (lo := 187) (hi := 189) q_.1 (by decide))), eσ242, dk_up_n (show ¬ (k_ = 189 ∧ j_ = H) from fun q_ => h_ (dk_wr (lo := 187) (hi := 189) q_.1 (by decide))), eσ237, dk_up_n (show ¬ (k_ = 188 ∧ j_ = H) from fun q_ => h_ (dk_wr (lo := 187) (hi := 189) q_.1 (by decide))), hF44 k_ j_ (fun w_ => h_ (w_))]) (rfl) (by first | exact ⟨by omega, by omega, fun i_ x_ y_ => by omega, fun x_ y_ => by first | (rw [rfl, dk_up_s]; omega) | (exfalso; omega)⟩ | exact (show v302 = n + 1 by omega) ▸ (FT_fwd (h := h) (σ' := σ110c) hFT (by omega) (by omega) (by omega) (fun j_ a_ b_ => by rw [hF110 187 j_ (by omega), eσ245, dk_up_n (show ¬ (187 = 187 ∧ j_ = n) by omega), eσ242, dk_up_n (show ¬ (187 = 189 ∧ j_ = H) by omega), eσ237, dk_up_n (show ¬ (187 = 188 ∧ j_ = H) by omega)]) (by rw []; exact hh.symm) (fun x_ => by first | (rw [show n + 1 = v302 by omega, rfl, dk_up_s]) | (exfalso; omega))).1 | exact (show v302 = n - 1 by omega) ▸ (FT_back (σ' := σ110c) hFT (by omega) (by omega) (by omega) (fun j_ a_ b_ => by rw [hF110 187 j_ (by omega), eσ245, dk_up_n (show ¬ (187 = 187 ∧ j_ = n) by omega), eσ242, dk_up_n (show ¬ (187 = 189 ∧ j_ = H) by omega), eσ237, dk_up_n (show ¬ (187 = 188 ∧ j_ = H) by omega)])).1) (by first | exact (fun e_ => ⟨by omega, fun x_ => by first | (rw [rfl, dk_up_s]) | (exfalso; omega), fun j_ x_ y_ => by first | exact hz j_ (by omega) (by omega) | (rw [rfl, dk_up_n (by omega), dk_up_n (by omega)]; exact hz j_ (by omega) (by omega))⟩) | exact (fun e_ => by have t_ := hTR e_; have u_ := t_.2.1 (by omega); have w_ := ht e_; refine ⟨by omega, fun x_ => by first | (rw [rfl, dk_up_s]) | (exfalso; omega), fun j_ x_ y_ => ⟨by rw [hF110 188 j_ (by omega), eσ245, dk_up_n (show ¬ (188 = 187 ∧ j_ = n) by omega), eσ242, dk_up_n (show ¬ (188 = 189 ∧ j_ = H) by omega), eσ237, dk_up_n (show ¬ (188 = 188 ∧ j_ = H) by omega)]; exact (t_.2.2 j_ (by omega) y_).1, by rw [hF110 189 j_ (by omega), eσ245, dk_up_n (show ¬ (189 = 187 ∧ j_ = n) by omega), eσ242, dk_up_n (show ¬ (189 = 189 ∧ j_ = H) by omega), eσ237, dk_up_n (show ¬ (189 = 188 ∧ j_ = H) by omega)]; exact (t_.2.2 j_ (by omega) y_).2⟩⟩) | exact (fun e_ => by have t_ := hTR e_; have u_ := t_.2.1 (by omega); exfalso; omega) | exact (fun e_ => by have w_ := ht e_; exfalso; omega))
                            · skip
                              refine dk_aload_n (pc' := 160) hE dX11_fits_159 rfl rfl rfl ?_
                              refine gf_11_76 (pc' := 163) (w := 187) hE fl_X11_152 dX11_fits_160 is_141 rfl rfl ?_
                              refine dk_iload_n (pc' := 164) hE dX11_fits_163 rfl rfl rfl ?_
                              refine dk_dup2 (pc' := 165) hE dX11_fits_164 (show (0 : Nat) ≠ 3 by decide) (show (4 : Nat) ≠ 3 by decide) rfl ?_
                              refine ga_115 (pc' := 166) hE dX11_fits_165 is_187 (by omega) rfl (fun v305 hv305 htv305 hbv305 => ?_)
                              have hq305 : h = v305 := (show v305 = h by rw [hv305, hv278]).symm
                              subst hq305
                              clear htv305 hbv305
                              refine dk_iconst (pc' := 167) hE dX11_fits_166 (by decide) rfl ?_
                              obtain ⟨v306, hv306⟩ : ∃ z : Int, z = h + 1 := ⟨_, rfl⟩
                              refine dk_iadd (pc' := 168) hE dX11_fits_167 hv306.symm (by omega) rfl ?_
                              refine pa_115 (pc' := 169) hE dX11_fits_168 is_187 (by omega) (by omega) rfl (fun σ307 eσ307 => ?_)
                              refine dk_goto (tgt := 110) hE dX11_fits_169 (by decide) ?_
                              have hz307_187_n : σ307 187 n = v306 := by rw [eσ307, dk_up_s]
                              exact ih110 (σ307 187 n) σ307 (by omega) (fun k_ j_ h_ => by rw [eσ307, dk_up_n (show ¬ (k_ = 187 ∧ j_ = n) from fun q_ => h_ (q_)), hF110 k_ j_ (fun w_ => h_ (w_))]) (rfl) (by omega) (fun e_ => by have t_ := hTR e_; have u_ := t_.2.1 (by omega); omega)
                    have hz309 : σ245 187 n = v244 := by rw [eσ245, dk_up_s]
                    have hz309_187_n : σ245 187 n = v244 := by rw [eσ245, dk_up_s]
                    exact lp110 _ (σ245 187 n) σ245 (Nat.lt_succ_self _) (fun k_ j_ h_ => rfl) (rfl) (by omega) (fun e_ => by have t_ := hTR e_; have u_ := t_.2.1 (by omega); omega)
          exact lp44 _ 0 (σ158 187 0) σ158 (Nat.lt_succ_self _) (fun k_ j_ h_ => rfl) (rfl) (by first | exact ⟨by omega, by omega, fun i_ x_ y_ => by omega, fun x_ y_ => by first | (rw [eσ158, dk_up_s]; omega) | (exfalso; omega)⟩ | exact (show 0 = n + 1 by omega) ▸ (FT_fwd (h := h) (σ' := σ158) hFT (by omega) (by omega) (by omega) (fun j_ a_ b_ => by rw [show True from trivial]) (by rw [show True from trivial]; exact hh.symm) (fun x_ => by first | (rw [show n + 1 = 0 by omega, eσ158, dk_up_s]) | (exfalso; omega))).1 | exact (show 0 = n - 1 by omega) ▸ (FT_back (σ' := σ158) hFT (by omega) (by omega) (by omega) (fun j_ a_ b_ => by rw [show True from trivial])).1) (by first | exact (fun e_ => ⟨by omega, fun x_ => by first | (rw [eσ158, dk_up_s]) | (exfalso; omega), fun j_ x_ y_ => by first | exact hz j_ (by omega) (by omega) | (rw [eσ158, dk_up_n (by omega), dk_up_n (by omega)]; exact hz j_ (by omega) (by omega))⟩) | exact (fun e_ => by have t_ := hTR e_; have u_ := t_.2.1 (by omega); have w_ := ht e_; refine ⟨by omega, fun x_ => by first | (rw [eσ158, dk_up_s]) | (exfalso; omega), fun j_ x_ y_ => ⟨by rw [show True from trivial]; exact (t_.2.2 j_ (by omega) y_).1, by rw [show True from trivial]; exact (t_.2.2 j_ (by omega) y_).2⟩⟩) | exact (fun e_ => by have t_ := hTR e_; have u_ := t_.2.1 (by omega); exfalso; omega) | exact (fun e_ => by have w_ := ht e_; exfalso; omega))
      · skip
        refine dk_aload_n (pc' := 9) hE dX11_fits_8 rfl rfl rfl ?_
        refine gf_11_77 (pc' := 12) (w := 188) hE fl_X11_155 dX11_fits_9 is_141 rfl rfl ?_
        refine dk_iload_n (pc' := 13) hE dX11_fits_12 rfl rfl rfl ?_
        refine dk_iconst (pc' := 14) hE dX11_fits_13 (by decide) rfl ?_
        refine pa_116 (pc' := 15) hE dX11_fits_14 is_188 (by omega) trivial rfl (fun σ313 eσ313 => ?_)
        refine dk_aload_n (pc' := 16) hE dX11_fits_15 rfl rfl rfl ?_
        refine gf_11_78 (pc' := 19) (w := 189) hE fl_X11_158 dX11_fits_16 is_141 rfl rfl ?_
        refine dk_iload_n (pc' := 20) hE dX11_fits_19 rfl rfl rfl ?_
        refine dk_iconst (pc' := 21) hE dX11_fits_20 (by decide) rfl ?_
        refine pa_117 (pc' := 22) hE dX11_fits_21 is_189 (by omega) trivial rfl (fun σ314 eσ314 => ?_)
        obtain ⟨v315, hv315⟩ : ∃ z : Int, z = i + 1 := ⟨_, rfl⟩
        refine dk_iinc (pc' := 25) (ls' := [(4, 141), (0, a), (0, v315)]) hE dX11_fits_22 rfl hv315.symm (by omega) rfl (by decide) rfl ?_
        refine dk_goto (tgt := 2) hE dX11_fits_25 (by decide) ?_
        exact ih2 v315 σ314 (by omega) (fun k_ j_ h_ => by rw [eσ314, dk_up_n (show ¬ (k_ = 189 ∧ j_ = i) from fun q_ => h_ (dk_wr (lo := 188) (hi := 189) q_.1 (by decide))), eσ313, dk_up_n (show ¬ (k_ = 188 ∧ j_ = i) from fun q_ => h_ (dk_wr (lo := 188) (hi := 189) q_.1 (by decide))), hF2 k_ j_ (fun w_ => h_ (w_))]) (by omega) (fun q_ a_ b_ => by first | (exfalso; omega) | (exact (if c_ : q_ < i then (by rw [eσ314, dk_up_n (by omega), dk_up_n (by omega), eσ313, dk_up_n (by omega), dk_up_n (by omega)]; exact hz q_ a_ c_) else (by rw [show q_ = i by omega]; exact ⟨by rw [eσ314, dk_up_n (by omega), eσ313, dk_up_s], by rw [eσ314, dk_up_s]⟩))))
  exact lp2 _ 0 σ (Nat.lt_succ_self _) (fun k_ j_ h_ => rfl) (by omega) (fun q_ a_ b_ => by first | (exfalso; omega) | (exact (if c_ : q_ < i then (by rw [rfl, dk_up_n (by omega), dk_up_n (by omega), rfl, dk_up_n (by omega), dk_up_n (by omega)]; exact hz q_ a_ c_) else (by rw [show q_ = i by omega]; exact ⟨by rw [rfl, dk_up_n (by omega), rfl, dk_up_s], by rw [rfl, dk_up_s]⟩))))
set_option maxHeartbeats 4000000 in
set_option maxRecDepth 20000 in
theorem ct_X11_week (l : Launch) (G : dkG) (hGd : dk_Gd G) (k R : Int) : dk_Ct l G dk_Ty yX11_week cX11_week 5 (some .int) 9 190 190 (fun av σ => av = [(4, 141), (0, k)] ∧ (MI σ) ∧ (R = σ 141 79)) (fun _ σ r_ σ' => ∃ z : Int, r_ = some (0, z) ∧ (∀ k_ j_ : Int, ¬ ((k_ = 141 ∧ j_ = 55) ∨ (k_ = 141 ∧ j_ = 56) ∨ (k_ = 141 ∧ j_ = 57) ∨ (k_ = 141 ∧ j_ = 58) ∨ (k_ = 141 ∧ j_ = 59) ∨ (k_ = 141 ∧ j_ = 60) ∨ (k_ = 141 ∧ j_ = 61) ∨ k_ = 168 ∨ (k_ = 141 ∧ j_ = 70) ∨ (176 ≤ k_ ∧ k_ ≤ 177) ∨ k_ = 180 ∨ (k_ = 141 ∧ j_ = 71) ∨ (k_ = 141 ∧ j_ = 72) ∨ (181 ≤ k_ ∧ k_ ≤ 183) ∨ k_ = 178 ∨ (186 ≤ k_ ∧ k_ ≤ 189) ∨ (k_ = 141 ∧ j_ = 81)) → σ' k_ j_ = σ k_ j_) ∧ (True)) := by
  refine dk_enter hGd (by decide) (fun av σ hpre hok => ?_)
  obtain ⟨rfl, hG, hRr⟩ := hpre
  refine ⟨Nat.le_of_ble_eq_true rfl, fun E hE hR _ => ?_⟩
  have hi_k : dk_i32 k := dk_oki (hok _ (by simp))
  show dk_PJ E 0 [(4, 141), (0, k), (9, 0), (9, 0), (9, 0)] [] 190 σ
  refine dk_iconst (pc' := 1) hE dX11_week_0 (by decide) rfl ?_
  refine dk_istore_n (pc' := 2) (ls' := [(4, 141), (0, k), (0, 0), (9, 0), (9, 0)]) hE dX11_week_1 rfl rfl (by decide) rfl ?_
  have lp2 : ∀ (N_ : Nat) (i : Int) (σ2c : dkS), (2147483648 - i).toNat < N_ → ((∀ k_ j_ : Int, ¬ ((k_ = 141 ∧ j_ = 55) ∨ (k_ = 141 ∧ j_ = 56) ∨ (k_ = 141 ∧ j_ = 57) ∨ (k_ = 141 ∧ j_ = 58) ∨ (k_ = 141 ∧ j_ = 59) ∨ (k_ = 141 ∧ j_ = 60) ∨ (k_ = 141 ∧ j_ = 61) ∨ k_ = 168 ∨ (k_ = 141 ∧ j_ = 70) ∨ (176 ≤ k_ ∧ k_ ≤ 177) ∨ k_ = 180 ∨ (k_ = 141 ∧ j_ = 71) ∨ (k_ = 141 ∧ j_ = 72) ∨ (181 ≤ k_ ∧ k_ ≤ 183) ∨ k_ = 178 ∨ k_ = 186) → σ2c k_ j_ = σ k_ j_)) → (0 ≤ i) → dk_PJ E 2 [(4, 141), (0, k), (0, i), (9, 0), (9, 0)] [] 190 σ2c := by
    intro N2
    induction N2 with
    | zero => intro i σ2c hm; exact absurd hm (Nat.not_lt_zero _)
    | succ N2 ih2 =>
      intro i σ2c hm2 hF2 hi
      refine dk_iload_n (pc' := 3) hE dX11_week_2 rfl rfl rfl ?_
      refine dk_aload_n (pc' := 4) hE dX11_week_3 rfl rfl rfl ?_
      refine gf_11_79 (pc' := 7) hE fl_X11_278 dX11_week_4 is_141 rfl (fun v1 hv1 htv1 hbv1 => ?_)
      have hq1 : R = v1 := (show v1 = R by rw [hv1, hF2 141 79 (by omega), hRr]).symm
      subst hq1
      refine dk_icmp_ge (tgt := 86) (pc' := 10) hE dX11_week_7 (by decide) rfl (fun hc2 => ?_) (fun hc2 => ?_)
      · skip
        refine dk_aload_n (pc' := 87) hE dX11_week_86 rfl rfl rfl ?_
        refine dk_iconst (pc' := 88) hE dX11_week_87 (by decide) rfl ?_
        refine pf_11_81 (pc' := 91) hE fl_X11_509 dX11_week_88 is_141 trivial rfl (fun σ3 eσ3 => ?_)
        have lp91 : ∀ (N_ : Nat) (σ91c : dkS), (R + 1 - σ91c 141 81).toNat < N_ → ((∀ k_ j_ : Int, ¬ ((187 ≤ k_ ∧ k_ ≤ 189) ∨ (k_ = 141 ∧ j_ = 81)) → σ91c k_ j_ = σ3 k_ j_)) → (0 ≤ σ91c 141 81 ∧ σ91c 141 81 ≤ R) → dk_PJ E 91 [(4, 141), (0, k), (0, i), (9, 0), (9, 0)] [] 190 σ91c := by
          intro N91
          induction N91 with
          | zero => intro  σ91c hm; exact absurd hm (Nat.not_lt_zero _)
          | succ N91 ih91 =>
            intro  σ91c hm91 hF91 hh
            refine dk_aload_n (pc' := 92) hE dX11_week_91 rfl rfl rfl ?_
            refine gf_11_81 (pc' := 95) hE fl_X11_509 dX11_week_92 is_141 rfl (fun v4 hv4 htv4 hbv4 => ?_)
            refine dk_aload_n (pc' := 96) hE dX11_week_95 rfl rfl rfl ?_
            refine gf_11_80 (pc' := 99) hE fl_X11_161 dX11_week_96 is_141 rfl (fun v5 hv5 htv5 hbv5 => ?_)
            obtain ⟨v6, hv6⟩ : ∃ z : Int, z = v4 * v5 := ⟨_, rfl⟩
            have hmv6 := dk_mul_b (a := v4) (b := v5) (A := 9) (B := 5) (by omega) (by omega)
            refine dk_imul (pc' := 100) hE dX11_week_99 hv6.symm (by omega) rfl ?_
            have hm2 : v4 * 1 ≤ v4 * v5 := Int.mul_le_mul_of_nonneg_left (by omega) (by omega)
            refine dk_aload_n (pc' := 101) hE dX11_week_100 rfl rfl rfl ?_
            refine gf_11_79 (pc' := 104) hE fl_X11_278 dX11_week_101 is_141 rfl (fun v7 hv7 htv7 hbv7 => ?_)
            have hq7 : R = v7 := (show v7 = R by rw [hv7, hF91 141 79 (by omega), eσ3, dk_up_n (show ¬ (141 = 141 ∧ 79 = 81) by omega), hv1]).symm
            subst hq7
            clear htv7 hbv7
            refine dk_icmp_lt (tgt := 118) (pc' := 107) hE dX11_week_104 (by decide) rfl (fun hc8 => ?_) (fun hc8 => ?_)
            · skip
              refine dk_aload_n (pc' := 119) hE dX11_week_118 rfl rfl rfl ?_
              refine dk_dup (pc' := 120) hE dX11_week_119 (show (4 : Nat) ≠ 3 by decide) rfl ?_
              refine gf_11_81 (pc' := 123) hE fl_X11_509 dX11_week_120 is_141 rfl (fun v9 hv9 htv9 hbv9 => ?_)
              have hq9 : v4 = v9 := (show v9 = v4 by rw [hv9, hv4]).symm
              subst hq9
              clear htv9 hbv9
              refine dk_iconst (pc' := 124) hE dX11_week_123 (by decide) rfl ?_
              obtain ⟨v10, hv10⟩ : ∃ z : Int, z = v4 + 1 := ⟨_, rfl⟩
              refine dk_iadd (pc' := 125) hE dX11_week_124 hv10.symm (by omega) rfl ?_
              refine pf_11_81 (pc' := 128) hE fl_X11_509 dX11_week_125 is_141 trivial rfl (fun σ11 eσ11 => ?_)
              refine dk_goto (tgt := 91) hE dX11_week_128 (by decide) ?_
              have hz11_141_81 : σ11 141 81 = v10 := by rw [eσ11, dk_up_s]
              exact ih91 σ11 (by omega) (fun k_ j_ h_ => by rw [eσ11, dk_up_n (show ¬ (k_ = 141 ∧ j_ = 81) from fun q_ => h_ (Or.inr (q_))), hF91 k_ j_ (fun w_ => h_ (w_.elim (fun x0_ => Or.inl (x0_)) (fun y0_ => Or.inr (y0_))))]) (by omega)
            · skip
              refine dk_aload_n (pc' := 108) hE dX11_week_107 rfl rfl rfl ?_
              refine dk_aload_n (pc' := 109) hE dX11_week_108 rfl rfl rfl ?_
              refine gf_11_81 (pc' := 112) hE fl_X11_509 dX11_week_109 is_141 rfl (fun v13 hv13 htv13 hbv13 => ?_)
              have hq13 : v4 = v13 := (show v13 = v4 by rw [hv13, hv4]).symm
              subst hq13
              clear htv13 hbv13
              have hz14 : σ91c 141 79 = R := by rw [hv7]
              refine dk_cV (pc' := 115) (as := [(0, v4)]) hE lk_X11_512 (ct_X11_fits l G hGd v4 R) dX11_week_112 rfl is_141 rfl (by decide) (Nat.le_of_ble_eq_true rfl) ⟨rfl, (by omega), (by omega), (by omega)⟩ rfl (fun r16 σ15 hr16 hor16 => ?_)
              obtain ⟨v17, rfl, hfσ15, hpr16⟩ := hr16
              refine dk_if_ne (tgt := 131) (pc' := 118) hE dX11_week_115 (by decide) rfl (fun hc18 => ?_) (fun hc18 => ?_)
              · skip
                refine dk_aload_n (pc' := 132) hE dX11_week_131 rfl rfl rfl ?_
                refine gf_11_81 (pc' := 135) hE fl_X11_509 dX11_week_132 is_141 rfl (fun v19 hv19 htv19 hbv19 => ?_)
                have hq19 : v4 = v19 := (show v19 = v4 by rw [hv19, hfσ15 141 81 (by omega), hv13]).symm
                subst hq19
                clear htv19 hbv19
                exact dk_iret (st := []) hE hR dX11_week_135 ⟨_, rfl, (fun k_ j_ h_ => by rw [hfσ15 k_ j_ (fun w_ => h_ (Or.inr (Or.inr (Or.inr (Or.inr (Or.inr (Or.inr (Or.inr (Or.inr (Or.inr (Or.inr (Or.inr (Or.inr (Or.inr (Or.inr (Or.inr (Or.inl (dk_wrr (lo := 186) (hi := 189) w_ (by decide) (by decide))))))))))))))))))), hF91 k_ j_ (fun w_ => h_ (w_.elim (fun x0_ => Or.inr (Or.inr (Or.inr (Or.inr (Or.inr (Or.inr (Or.inr (Or.inr (Or.inr (Or.inr (Or.inr (Or.inr (Or.inr (Or.inr (Or.inr (Or.inl (dk_wrr (lo := 186) (hi := 189) x0_ (by decide) (by decide)))))))))))))))))) (fun y0_ => Or.inr (Or.inr (Or.inr (Or.inr (Or.inr (Or.inr (Or.inr (Or.inr (Or.inr (Or.inr (Or.inr (Or.inr (Or.inr (Or.inr (Or.inr (Or.inr (y0_))))))))))))))))))), eσ3, dk_up_n (show ¬ (k_ = 141 ∧ j_ = 81) from fun q_ => h_ (Or.inr (Or.inr (Or.inr (Or.inr (Or.inr (Or.inr (Or.inr (Or.inr (Or.inr (Or.inr (Or.inr (Or.inr (Or.inr (Or.inr (Or.inr (Or.inr (q_)))))))))))))))))), hF2 k_ j_ (fun w_ => h_ (w_.elim (fun x0_ => Or.inl (x0_)) (fun y0_ => y0_.elim (fun x1_ => Or.inr (Or.inl (x1_))) (fun y1_ => y1_.elim (fun x2_ => Or.inr (Or.inr (Or.inl (x2_)))) (fun y2_ => y2_.elim (fun x3_ => Or.inr (Or.inr (Or.inr (Or.inl (x3_))))) (fun y3_ => y3_.elim (fun x4_ => Or.inr (Or.inr (Or.inr (Or.inr (Or.inl (x4_)))))) (fun y4_ => y4_.elim (fun x5_ => Or.inr (Or.inr (Or.inr (Or.inr (Or.inr (Or.inl (x5_))))))) (fun y5_ => y5_.elim (fun x6_ => Or.inr (Or.inr (Or.inr (Or.inr (Or.inr (Or.inr (Or.inl (x6_)))))))) (fun y6_ => y6_.elim (fun x7_ => Or.inr (Or.inr (Or.inr (Or.inr (Or.inr (Or.inr (Or.inr (Or.inl (x7_))))))))) (fun y7_ => y7_.elim (fun x8_ => Or.inr (Or.inr (Or.inr (Or.inr (Or.inr (Or.inr (Or.inr (Or.inr (Or.inl (x8_)))))))))) (fun y8_ => y8_.elim (fun x9_ => Or.inr (Or.inr (Or.inr (Or.inr (Or.inr (Or.inr (Or.inr (Or.inr (Or.inr (Or.inl (x9_))))))))))) (fun y9_ => y9_.elim (fun x10_ => Or.inr (Or.inr (Or.inr (Or.inr (Or.inr (Or.inr (Or.inr (Or.inr (Or.inr (Or.inr (Or.inl (x10_)))))))))))) (fun y10_ => y10_.elim (fun x11_ => Or.inr (Or.inr (Or.inr (Or.inr (Or.inr (Or.inr (Or.inr (Or.inr (Or.inr (Or.inr (Or.inr (Or.inl (x11_))))))))))))) (fun y11_ => y11_.elim (fun x12_ => Or.inr (Or.inr (Or.inr (Or.inr (Or.inr (Or.inr (Or.inr (Or.inr (Or.inr (Or.inr (Or.inr (Or.inr (Or.inl (x12_)))))))))))))) (fun y12_ => y12_.elim (fun x13_ => Or.inr (Or.inr (Or.inr (Or.inr (Or.inr (Or.inr (Or.inr (Or.inr (Or.inr (Or.inr (Or.inr (Or.inr (Or.inr (Or.inl (x13_))))))))))))))) (fun y13_ => y13_.elim (fun x14_ => Or.inr (Or.inr (Or.inr (Or.inr (Or.inr (Or.inr (Or.inr (Or.inr (Or.inr (Or.inr (Or.inr (Or.inr (Or.inr (Or.inr (Or.inl (x14_)))))))))))))))) (fun y14_ => Or.inr (Or.inr (Or.inr (Or.inr (Or.inr (Or.inr (Or.inr (Or.inr (Or.inr (Or.inr (Or.inr (Or.inr (Or.inr (Or.inr (Or.inr (Or.inl (dk_wr (lo := 186) (hi := 189) y14_ (by decide))))))))))))))))))))))))))))))))))]), trivial⟩
              · skip
                refine dk_aload_n (pc' := 119) hE dX11_week_118 rfl rfl rfl ?_
                refine dk_dup (pc' := 120) hE dX11_week_119 (show (4 : Nat) ≠ 3 by decide) rfl ?_
                refine gf_11_81 (pc' := 123) hE fl_X11_509 dX11_week_120 is_141 rfl (fun v20 hv20 htv20 hbv20 => ?_)
                have hq20 : v4 = v20 := (show v20 = v4 by rw [hv20, hfσ15 141 81 (by omega), hv13]).symm
                subst hq20
                clear htv20 hbv20
                refine dk_iconst (pc' := 124) hE dX11_week_123 (by decide) rfl ?_
                obtain ⟨v21, hv21⟩ : ∃ z : Int, z = v4 + 1 := ⟨_, rfl⟩
                refine dk_iadd (pc' := 125) hE dX11_week_124 hv21.symm (by omega) rfl ?_
                refine pf_11_81 (pc' := 128) hE fl_X11_509 dX11_week_125 is_141 trivial rfl (fun σ22 eσ22 => ?_)
                refine dk_goto (tgt := 91) hE dX11_week_128 (by decide) ?_
                have hz22_141_81 : σ22 141 81 = v21 := by rw [eσ22, dk_up_s]
                exact ih91 σ22 (by omega) (fun k_ j_ h_ => by rw [eσ22, dk_up_n (show ¬ (k_ = 141 ∧ j_ = 81) from fun q_ => h_ (Or.inr (q_))), hfσ15 k_ j_ (fun w_ => h_ (Or.inl (w_))), hF91 k_ j_ (fun w_ => h_ (w_.elim (fun x0_ => Or.inl (x0_)) (fun y0_ => Or.inr (y0_))))]) (by omega)
        have hz24 : σ3 141 81 = 0 := by rw [eσ3, dk_up_s]
        have hz25 : σ3 141 81 = 0 := by rw [eσ3, dk_up_s]
        have hz26 : σ3 141 81 = 0 := by rw [eσ3, dk_up_s]
        have hz26_141_81 : σ3 141 81 = 0 := by rw [eσ3, dk_up_s]
        exact lp91 _ σ3 (Nat.lt_succ_self _) (fun k_ j_ h_ => rfl) (by omega)
      · skip
        refine dk_aload_n (pc' := 11) hE dX11_week_10 rfl rfl rfl ?_
        refine gf_11_75 (pc' := 14) (w := 186) hE fl_X11_149 dX11_week_11 is_141 rfl rfl ?_
        refine dk_iload_n (pc' := 15) hE dX11_week_14 rfl rfl rfl ?_
        refine dk_iconst (pc' := 16) hE dX11_week_15 (by decide) rfl ?_
        refine pa_114 (pc' := 17) hE dX11_week_16 is_186 (by omega) trivial rfl (fun σ28 eσ28 => ?_)
        refine dk_aload_n (pc' := 18) hE dX11_week_17 rfl rfl rfl ?_
        refine dk_aload_n (pc' := 19) hE dX11_week_18 rfl rfl rfl ?_
        refine gf_11_73 (pc' := 22) (w := 184) hE fl_X11_143 dX11_week_19 is_141 rfl rfl ?_
        refine dk_iload_n (pc' := 23) hE dX11_week_22 rfl rfl rfl ?_
        refine ga_112 (pc' := 24) hE dX11_week_23 is_184 (by omega) rfl (fun v29 hv29 htv29 hbv29 => ?_)
        refine dk_aload_n (pc' := 25) hE dX11_week_24 rfl rfl rfl ?_
        refine gf_11_74 (pc' := 28) (w := 185) hE fl_X11_146 dX11_week_25 is_141 rfl rfl ?_
        refine dk_iload_n (pc' := 29) hE dX11_week_28 rfl rfl rfl ?_
        refine ga_113 (pc' := 30) hE dX11_week_29 is_185 (by omega) rfl (fun v30 hv30 htv30 hbv30 => ?_)
        refine dk_iload_n (pc' := 31) hE dX11_week_30 rfl rfl rfl ?_
        have gi31 : MI σ28 := MI_fr hG (fun k_ j_ h_ => by rw [eσ28, dk_up_n (show ¬ (k_ = 186 ∧ j_ = i) from fun q_ => fpn335_186 q_.1 h_), hF2 k_ j_ (fpw335_4146192386 k_ j_ h_)])
        refine dk_cV (pc' := 34) (as := [(0, v29), (0, v30), (0, k)]) hE lk_X11_501 (ct_X11_hasCast l G hGd v29 v30 k) dX11_week_31 rfl is_141 rfl (by decide) (Nat.le_of_ble_eq_true rfl) ⟨rfl, gi31, (by omega)⟩ rfl (fun r33 σ32 hr33 hor33 => ?_)
        obtain ⟨v34, rfl, hfσ32, hpr33⟩ := hr33
        refine dk_istore_n (pc' := 35) (ls' := [(4, 141), (0, k), (0, i), (0, v34), (9, 0)]) hE dX11_week_34 rfl rfl (by decide) rfl ?_
        refine dk_iconst (pc' := 36) hE dX11_week_35 (by decide) rfl ?_
        refine dk_istore (pc' := 38) (ls' := [(4, 141), (0, k), (0, i), (0, v34), (0, 0)]) hE dX11_week_36 rfl (by decide) rfl ?_
        have lp38 : ∀ (N_ : Nat) (j : Int) (σ38c : dkS), (2147483648 - j).toNat < N_ → ((∀ k_ j_ : Int, ¬ (k_ = 186) → σ38c k_ j_ = σ32 k_ j_)) → (0 ≤ j) → dk_PJ E 38 [(4, 141), (0, k), (0, i), (0, v34), (0, j)] [] 190 σ38c := by
          intro N38
          induction N38 with
          | zero => intro j σ38c hm; exact absurd hm (Nat.not_lt_zero _)
          | succ N38 ih38 =>
            intro j σ38c hm38 hF38 hj
            refine dk_iload (pc' := 40) hE dX11_week_38 rfl rfl ?_
            refine dk_aload_n (pc' := 41) hE dX11_week_40 rfl rfl rfl ?_
            refine gf_11_70 (pc' := 44) hE fl_X11_483 dX11_week_41 is_141 rfl (fun v35 hv35 htv35 hbv35 => ?_)
            refine dk_icmp_ge (tgt := 80) (pc' := 47) hE dX11_week_44 (by decide) rfl (fun hc36 => ?_) (fun hc36 => ?_)
            · skip
              obtain ⟨v37, hv37⟩ : ∃ z : Int, z = i + 1 := ⟨_, rfl⟩
              refine dk_iinc (pc' := 83) (ls' := [(4, 141), (0, k), (0, v37), (0, v34), (0, j)]) hE dX11_week_80 rfl hv37.symm (by omega) rfl (by decide) rfl ?_
              refine dk_goto (tgt := 2) hE dX11_week_83 (by decide) ?_
              refine dk_drop (ls' := [(4, 141), (0, k), (0, v37), (9, 0), (9, 0)]) [true, true, true, false, false] rfl ?_
              exact ih2 v37 σ38c (by omega) (fun k_ j_ h_ => by rw [hF38 k_ j_ (fun w_ => h_ (Or.inr (Or.inr (Or.inr (Or.inr (Or.inr (Or.inr (Or.inr (Or.inr (Or.inr (Or.inr (Or.inr (Or.inr (Or.inr (Or.inr (Or.inr (w_))))))))))))))))), hfσ32 k_ j_ (fun w_ => h_ (w_.elim (fun x0_ => Or.inl (x0_)) (fun y0_ => y0_.elim (fun x1_ => Or.inr (Or.inl (x1_))) (fun y1_ => y1_.elim (fun x2_ => Or.inr (Or.inr (Or.inl (x2_)))) (fun y2_ => y2_.elim (fun x3_ => Or.inr (Or.inr (Or.inr (Or.inl (x3_))))) (fun y3_ => y3_.elim (fun x4_ => Or.inr (Or.inr (Or.inr (Or.inr (Or.inl (x4_)))))) (fun y4_ => y4_.elim (fun x5_ => Or.inr (Or.inr (Or.inr (Or.inr (Or.inr (Or.inl (x5_))))))) (fun y5_ => y5_.elim (fun x6_ => Or.inr (Or.inr (Or.inr (Or.inr (Or.inr (Or.inr (Or.inl (x6_)))))))) (fun y6_ => y6_.elim (fun x7_ => Or.inr (Or.inr (Or.inr (Or.inr (Or.inr (Or.inr (Or.inr (Or.inl (x7_))))))))) (fun y7_ => y7_.elim (fun x8_ => Or.inr (Or.inr (Or.inr (Or.inr (Or.inr (Or.inr (Or.inr (Or.inr (Or.inl (x8_)))))))))) (fun y8_ => y8_.elim (fun x9_ => Or.inr (Or.inr (Or.inr (Or.inr (Or.inr (Or.inr (Or.inr (Or.inr (Or.inr (Or.inl (x9_))))))))))) (fun y9_ => y9_.elim (fun x10_ => Or.inr (Or.inr (Or.inr (Or.inr (Or.inr (Or.inr (Or.inr (Or.inr (Or.inr (Or.inr (Or.inl (x10_)))))))))))) (fun y10_ => y10_.elim (fun x11_ => Or.inr (Or.inr (Or.inr (Or.inr (Or.inr (Or.inr (Or.inr (Or.inr (Or.inr (Or.inr (Or.inr (Or.inl (x11_))))))))))))) (fun y11_ => y11_.elim (fun x12_ => Or.inr (Or.inr (Or.inr (Or.inr (Or.inr (Or.inr (Or.inr (Or.inr (Or.inr (Or.inr (Or.inr (Or.inr (Or.inl (x12_)))))))))))))) (fun y12_ => y12_.elim (fun x13_ => Or.inr (Or.inr (Or.inr (Or.inr (Or.inr (Or.inr (Or.inr (Or.inr (Or.inr (Or.inr (Or.inr (Or.inr (Or.inr (Or.inl (x13_))))))))))))))) (fun y13_ => Or.inr (Or.inr (Or.inr (Or.inr (Or.inr (Or.inr (Or.inr (Or.inr (Or.inr (Or.inr (Or.inr (Or.inr (Or.inr (Or.inr (Or.inl (y13_))))))))))))))))))))))))))))))), eσ28, dk_up_n (show ¬ (k_ = 186 ∧ j_ = i) from fun q_ => h_ (Or.inr (Or.inr (Or.inr (Or.inr (Or.inr (Or.inr (Or.inr (Or.inr (Or.inr (Or.inr (Or.inr (Or.inr (Or.inr (Or.inr (Or.inr (q_.1))))))))))))))))), hF2 k_ j_ (fun w_ => h_ (w_.elim (fun x0_ => Or.inl (x0_)) (fun y0_ => y0_.elim (fun x1_ => Or.inr (Or.inl (x1_))) (fun y1_ => y1_.elim (fun x2_ => Or.inr (Or.inr (Or.inl (x2_)))) (fun y2_ => y2_.elim (fun x3_ => Or.inr (Or.inr (Or.inr (Or.inl (x3_))))) (fun y3_ => y3_.elim (fun x4_ => Or.inr (Or.inr (Or.inr (Or.inr (Or.inl (x4_)))))) (fun y4_ => y4_.elim (fun x5_ => Or.inr (Or.inr (Or.inr (Or.inr (Or.inr (Or.inl (x5_))))))) (fun y5_ => y5_.elim (fun x6_ => Or.inr (Or.inr (Or.inr (Or.inr (Or.inr (Or.inr (Or.inl (x6_)))))))) (fun y6_ => y6_.elim (fun x7_ => Or.inr (Or.inr (Or.inr (Or.inr (Or.inr (Or.inr (Or.inr (Or.inl (x7_))))))))) (fun y7_ => y7_.elim (fun x8_ => Or.inr (Or.inr (Or.inr (Or.inr (Or.inr (Or.inr (Or.inr (Or.inr (Or.inl (x8_)))))))))) (fun y8_ => y8_.elim (fun x9_ => Or.inr (Or.inr (Or.inr (Or.inr (Or.inr (Or.inr (Or.inr (Or.inr (Or.inr (Or.inl (x9_))))))))))) (fun y9_ => y9_.elim (fun x10_ => Or.inr (Or.inr (Or.inr (Or.inr (Or.inr (Or.inr (Or.inr (Or.inr (Or.inr (Or.inr (Or.inl (x10_)))))))))))) (fun y10_ => y10_.elim (fun x11_ => Or.inr (Or.inr (Or.inr (Or.inr (Or.inr (Or.inr (Or.inr (Or.inr (Or.inr (Or.inr (Or.inr (Or.inl (x11_))))))))))))) (fun y11_ => y11_.elim (fun x12_ => Or.inr (Or.inr (Or.inr (Or.inr (Or.inr (Or.inr (Or.inr (Or.inr (Or.inr (Or.inr (Or.inr (Or.inr (Or.inl (x12_)))))))))))))) (fun y12_ => y12_.elim (fun x13_ => Or.inr (Or.inr (Or.inr (Or.inr (Or.inr (Or.inr (Or.inr (Or.inr (Or.inr (Or.inr (Or.inr (Or.inr (Or.inr (Or.inl (x13_))))))))))))))) (fun y13_ => y13_.elim (fun x14_ => Or.inr (Or.inr (Or.inr (Or.inr (Or.inr (Or.inr (Or.inr (Or.inr (Or.inr (Or.inr (Or.inr (Or.inr (Or.inr (Or.inr (Or.inl (x14_)))))))))))))))) (fun y14_ => Or.inr (Or.inr (Or.inr (Or.inr (Or.inr (Or.inr (Or.inr (Or.inr (Or.inr (Or.inr (Or.inr (Or.inr (Or.inr (Or.inr (Or.inr (y14_))))))))))))))))))))))))))))))))]) (by omega)
            · skip
              refine dk_iload_n (pc' := 48) hE dX11_week_47 rfl rfl rfl ?_
              refine dk_if_eq (tgt := 80) (pc' := 51) hE dX11_week_48 (by decide) rfl (fun hc38 => ?_) (fun hc38 => ?_)
              · skip
                obtain ⟨v39, hv39⟩ : ∃ z : Int, z = i + 1 := ⟨_, rfl⟩
                refine dk_iinc (pc' := 83) (ls' := [(4, 141), (0, k), (0, v39), (0, v34), (0, j)]) hE dX11_week_80 rfl hv39.symm (by omega) rfl (by decide) rfl ?_
                refine dk_goto (tgt := 2) hE dX11_week_83 (by decide) ?_
                refine dk_drop (ls' := [(4, 141), (0, k), (0, v39), (9, 0), (9, 0)]) [true, true, true, false, false] rfl ?_
                exact ih2 v39 σ38c (by omega) (fun k_ j_ h_ => by rw [hF38 k_ j_ (fun w_ => h_ (Or.inr (Or.inr (Or.inr (Or.inr (Or.inr (Or.inr (Or.inr (Or.inr (Or.inr (Or.inr (Or.inr (Or.inr (Or.inr (Or.inr (Or.inr (w_))))))))))))))))), hfσ32 k_ j_ (fun w_ => h_ (w_.elim (fun x0_ => Or.inl (x0_)) (fun y0_ => y0_.elim (fun x1_ => Or.inr (Or.inl (x1_))) (fun y1_ => y1_.elim (fun x2_ => Or.inr (Or.inr (Or.inl (x2_)))) (fun y2_ => y2_.elim (fun x3_ => Or.inr (Or.inr (Or.inr (Or.inl (x3_))))) (fun y3_ => y3_.elim (fun x4_ => Or.inr (Or.inr (Or.inr (Or.inr (Or.inl (x4_)))))) (fun y4_ => y4_.elim (fun x5_ => Or.inr (Or.inr (Or.inr (Or.inr (Or.inr (Or.inl (x5_))))))) (fun y5_ => y5_.elim (fun x6_ => Or.inr (Or.inr (Or.inr (Or.inr (Or.inr (Or.inr (Or.inl (x6_)))))))) (fun y6_ => y6_.elim (fun x7_ => Or.inr (Or.inr (Or.inr (Or.inr (Or.inr (Or.inr (Or.inr (Or.inl (x7_))))))))) (fun y7_ => y7_.elim (fun x8_ => Or.inr (Or.inr (Or.inr (Or.inr (Or.inr (Or.inr (Or.inr (Or.inr (Or.inl (x8_)))))))))) (fun y8_ => y8_.elim (fun x9_ => Or.inr (Or.inr (Or.inr (Or.inr (Or.inr (Or.inr (Or.inr (Or.inr (Or.inr (Or.inl (x9_))))))))))) (fun y9_ => y9_.elim (fun x10_ => Or.inr (Or.inr (Or.inr (Or.inr (Or.inr (Or.inr (Or.inr (Or.inr (Or.inr (Or.inr (Or.inl (x10_)))))))))))) (fun y10_ => y10_.elim (fun x11_ => Or.inr (Or.inr (Or.inr (Or.inr (Or.inr (Or.inr (Or.inr (Or.inr (Or.inr (Or.inr (Or.inr (Or.inl (x11_))))))))))))) (fun y11_ => y11_.elim (fun x12_ => Or.inr (Or.inr (Or.inr (Or.inr (Or.inr (Or.inr (Or.inr (Or.inr (Or.inr (Or.inr (Or.inr (Or.inr (Or.inl (x12_)))))))))))))) (fun y12_ => y12_.elim (fun x13_ => Or.inr (Or.inr (Or.inr (Or.inr (Or.inr (Or.inr (Or.inr (Or.inr (Or.inr (Or.inr (Or.inr (Or.inr (Or.inr (Or.inl (x13_))))))))))))))) (fun y13_ => Or.inr (Or.inr (Or.inr (Or.inr (Or.inr (Or.inr (Or.inr (Or.inr (Or.inr (Or.inr (Or.inr (Or.inr (Or.inr (Or.inr (Or.inl (y13_))))))))))))))))))))))))))))))), eσ28, dk_up_n (show ¬ (k_ = 186 ∧ j_ = i) from fun q_ => h_ (Or.inr (Or.inr (Or.inr (Or.inr (Or.inr (Or.inr (Or.inr (Or.inr (Or.inr (Or.inr (Or.inr (Or.inr (Or.inr (Or.inr (Or.inr (q_.1))))))))))))))))), hF2 k_ j_ (fun w_ => h_ (w_.elim (fun x0_ => Or.inl (x0_)) (fun y0_ => y0_.elim (fun x1_ => Or.inr (Or.inl (x1_))) (fun y1_ => y1_.elim (fun x2_ => Or.inr (Or.inr (Or.inl (x2_)))) (fun y2_ => y2_.elim (fun x3_ => Or.inr (Or.inr (Or.inr (Or.inl (x3_))))) (fun y3_ => y3_.elim (fun x4_ => Or.inr (Or.inr (Or.inr (Or.inr (Or.inl (x4_)))))) (fun y4_ => y4_.elim (fun x5_ => Or.inr (Or.inr (Or.inr (Or.inr (Or.inr (Or.inl (x5_))))))) (fun y5_ => y5_.elim (fun x6_ => Or.inr (Or.inr (Or.inr (Or.inr (Or.inr (Or.inr (Or.inl (x6_)))))))) (fun y6_ => y6_.elim (fun x7_ => Or.inr (Or.inr (Or.inr (Or.inr (Or.inr (Or.inr (Or.inr (Or.inl (x7_))))))))) (fun y7_ => y7_.elim (fun x8_ => Or.inr (Or.inr (Or.inr (Or.inr (Or.inr (Or.inr (Or.inr (Or.inr (Or.inl (x8_)))))))))) (fun y8_ => y8_.elim (fun x9_ => Or.inr (Or.inr (Or.inr (Or.inr (Or.inr (Or.inr (Or.inr (Or.inr (Or.inr (Or.inl (x9_))))))))))) (fun y9_ => y9_.elim (fun x10_ => Or.inr (Or.inr (Or.inr (Or.inr (Or.inr (Or.inr (Or.inr (Or.inr (Or.inr (Or.inr (Or.inl (x10_)))))))))))) (fun y10_ => y10_.elim (fun x11_ => Or.inr (Or.inr (Or.inr (Or.inr (Or.inr (Or.inr (Or.inr (Or.inr (Or.inr (Or.inr (Or.inr (Or.inl (x11_))))))))))))) (fun y11_ => y11_.elim (fun x12_ => Or.inr (Or.inr (Or.inr (Or.inr (Or.inr (Or.inr (Or.inr (Or.inr (Or.inr (Or.inr (Or.inr (Or.inr (Or.inl (x12_)))))))))))))) (fun y12_ => y12_.elim (fun x13_ => Or.inr (Or.inr (Or.inr (Or.inr (Or.inr (Or.inr (Or.inr (Or.inr (Or.inr (Or.inr (Or.inr (Or.inr (Or.inr (Or.inl (x13_))))))))))))))) (fun y13_ => y13_.elim (fun x14_ => Or.inr (Or.inr (Or.inr (Or.inr (Or.inr (Or.inr (Or.inr (Or.inr (Or.inr (Or.inr (Or.inr (Or.inr (Or.inr (Or.inr (Or.inl (x14_)))))))))))))))) (fun y14_ => Or.inr (Or.inr (Or.inr (Or.inr (Or.inr (Or.inr (Or.inr (Or.inr (Or.inr (Or.inr (Or.inr (Or.inr (Or.inr (Or.inr (Or.inr (y14_))))))))))))))))))))))))))))))))]) (by omega)
              · skip
                refine dk_aload_n (pc' := 52) hE dX11_week_51 rfl rfl rfl ?_
                refine gf_11_75 (pc' := 55) (w := 186) hE fl_X11_149 dX11_week_52 is_141 rfl rfl ?_
                refine dk_iload_n (pc' := 56) hE dX11_week_55 rfl rfl rfl ?_
                refine dk_dup2 (pc' := 57) hE dX11_week_56 (show (0 : Nat) ≠ 3 by decide) (show (4 : Nat) ≠ 3 by decide) rfl ?_
                refine ga_114 (pc' := 58) hE dX11_week_57 is_186 (by omega) rfl (fun v40 hv40 htv40 hbv40 => ?_)
                refine dk_iconst (pc' := 59) hE dX11_week_58 (by decide) rfl ?_
                refine dk_aload_n (pc' := 60) hE dX11_week_59 rfl rfl rfl ?_
                refine gf_11_64 (pc' := 63) (w := 178) hE fl_X11_125 dX11_week_60 is_141 rfl rfl ?_
                refine dk_aload_n (pc' := 64) hE dX11_week_63 rfl rfl rfl ?_
                refine gf_11_66 (pc' := 67) (w := 180) hE fl_X11_131 dX11_week_64 is_141 rfl rfl ?_
                refine dk_iload (pc' := 69) hE dX11_week_67 rfl rfl ?_
                refine ga_108 (pc' := 70) hE dX11_week_69 is_180 (by omega) rfl (fun v41 hv41 htv41 hbv41 => ?_)
                refine ga_106 (pc' := 71) hE dX11_week_70 is_178 (by omega) rfl (fun v42 hv42 htv42 hbv42 => ?_)
                refine dk_ishl (pc' := 72) hE dX11_week_71 rfl (fun v43 hv43 ev43 => ?_)
                refine dk_ior (pc' := 73) hE dX11_week_72 rfl (fun v44 hv44 ev44 => ?_)
                refine pa_114 (pc' := 74) hE dX11_week_73 is_186 (by omega) trivial rfl (fun σ45 eσ45 => ?_)
                obtain ⟨v46, hv46⟩ : ∃ z : Int, z = j + 1 := ⟨_, rfl⟩
                refine dk_iinc (pc' := 77) (ls' := [(4, 141), (0, k), (0, i), (0, v34), (0, v46)]) hE dX11_week_74 rfl hv46.symm (by omega) rfl (by decide) rfl ?_
                refine dk_goto (tgt := 38) hE dX11_week_77 (by decide) ?_
                exact ih38 v46 σ45 (by omega) (fun k_ j_ h_ => by rw [eσ45, dk_up_n (show ¬ (k_ = 186 ∧ j_ = i) from fun q_ => h_ (q_.1)), hF38 k_ j_ (fun w_ => h_ (w_))]) (by omega)
        exact lp38 _ 0 σ32 (Nat.lt_succ_self _) (fun k_ j_ h_ => rfl) (by omega)
  exact lp2 _ 0 σ (Nat.lt_succ_self _) (fun k_ j_ h_ => rfl) (by omega)
set_option maxHeartbeats 4000000 in
set_option maxRecDepth 20000 in
theorem ct_X11_hour (l : Launch) (G : dkG) (hGd : dk_Gd G) (a k : Int) : dk_Ct l G dk_Ty yX11_hour cX11_hour 4 (some .int) 10 190 190 (fun av σ => av = [(4, 141), (0, a), (0, k)] ∧ (MI σ)) (fun _ σ r_ σ' => ∃ z : Int, r_ = some (0, z) ∧ (∀ k_ j_ : Int, ¬ ((k_ = 141 ∧ j_ = 55) ∨ (k_ = 141 ∧ j_ = 56) ∨ (k_ = 141 ∧ j_ = 57) ∨ (k_ = 141 ∧ j_ = 58) ∨ (k_ = 141 ∧ j_ = 59) ∨ (k_ = 141 ∧ j_ = 60) ∨ (k_ = 141 ∧ j_ = 61) ∨ k_ = 168 ∨ (k_ = 141 ∧ j_ = 70) ∨ (176 ≤ k_ ∧ k_ ≤ 177) ∨ k_ = 180 ∨ (k_ = 141 ∧ j_ = 71) ∨ (k_ = 141 ∧ j_ = 72) ∨ (181 ≤ k_ ∧ k_ ≤ 183) ∨ k_ = 178 ∨ (186 ≤ k_ ∧ k_ ≤ 189) ∨ (k_ = 141 ∧ j_ = 81)) → σ' k_ j_ = σ k_ j_) ∧ (True)) := by
  refine dk_enter hGd (by decide) (fun av σ hpre hok => ?_)
  obtain ⟨rfl, hG⟩ := hpre
  refine ⟨Nat.le_of_ble_eq_true rfl, fun E hE hR _ => ?_⟩
  have hi_a : dk_i32 a := dk_oki (hok _ (by simp))
  have hi_k : dk_i32 k := dk_oki (hok _ (by simp))
  show dk_PJ E 0 [(4, 141), (0, a), (0, k), (9, 0)] [] 190 σ
  refine dk_iload_n (pc' := 1) hE dX11_hour_0 rfl rfl rfl ?_
  refine dk_iconst (pc' := 2) hE dX11_hour_1 (by decide) rfl ?_
  refine dk_aload_n (pc' := 3) hE dX11_hour_2 rfl rfl rfl ?_
  refine gf_11_79 (pc' := 6) hE fl_X11_278 dX11_hour_3 is_141 rfl (fun v1 hv1 htv1 hbv1 => ?_)
  refine dk_iconst (pc' := 7) hE dX11_hour_6 (by decide) rfl ?_
  obtain ⟨v2, hv2⟩ : ∃ z : Int, z = v1 - 1 := ⟨_, rfl⟩
  refine dk_isub (pc' := 8) hE dX11_hour_7 hv2.symm (by omega) rfl ?_
  refine dk_cS (pc' := 11) (as := [(0, a), (0, 0), (0, v2)]) hE lk_X11_323 (ct_X11_isIn l G hGd a 0 v2) dX11_hour_8 rfl rfl (by decide) (Nat.le_of_ble_eq_true rfl) rfl rfl (fun r4 σ3 hr4 hor4 => ?_)
  obtain ⟨v5, rfl, hfσ3, hpr4⟩ := hr4
  have hsσ3 : σ = σ3 := (funext (fun k => funext (fun j => hfσ3 k j not_false))).symm
  subst hsσ3
  rcases hpr4 with ⟨rfl, hpr4⟩ | ⟨rfl, hpr4⟩
  · skip
    refine dk_if_ne (tgt := 16) (pc' := 14) hE dX11_hour_11 (by decide) rfl (fun hc6 => ?_) (fun hc6 => absurd hc6 (by decide))
    refine dk_aload_n (pc' := 17) hE dX11_hour_16 rfl rfl rfl ?_
    refine dk_iload_n (pc' := 18) hE dX11_hour_17 rfl rfl rfl ?_
    have hz7 : σ 141 79 = v1 := by rw [hv1]
    have hz8 : σ 141 79 = v1 := by rw [hv1]
    refine dk_cV (pc' := 21) (as := [(0, k)]) hE lk_X11_515 (ct_X11_week l G hGd k (σ 141 79)) dX11_hour_18 rfl is_141 rfl (by decide) (Nat.le_of_ble_eq_true rfl) ⟨rfl, hG, (by omega)⟩ rfl (fun r10 σ9 hr10 hor10 => ?_)
    obtain ⟨v11, rfl, hfσ9, hpr10⟩ := hr10
    have hkv11 := dk_oki (hor10 _ rfl)
    refine dk_istore_n (pc' := 22) (ls' := [(4, 141), (0, a), (0, k), (0, v11)]) hE dX11_hour_21 rfl rfl (by decide) rfl ?_
    refine dk_iload_n (pc' := 23) hE dX11_hour_22 rfl rfl rfl ?_
    refine dk_if_le (tgt := 35) (pc' := 26) hE dX11_hour_23 (by decide) rfl (fun hc12 => ?_) (fun hc12 => ?_)
    · skip
      refine dk_iconst (pc' := 36) hE dX11_hour_35 (by decide) rfl ?_
      exact dk_iret (st := []) hE hR dX11_hour_36 ⟨_, rfl, (fun k_ j_ h_ => by rw [hfσ9 k_ j_ (fun w_ => h_ (w_.elim (fun x0_ => Or.inl (x0_)) (fun y0_ => y0_.elim (fun x1_ => Or.inr (Or.inl (x1_))) (fun y1_ => y1_.elim (fun x2_ => Or.inr (Or.inr (Or.inl (x2_)))) (fun y2_ => y2_.elim (fun x3_ => Or.inr (Or.inr (Or.inr (Or.inl (x3_))))) (fun y3_ => y3_.elim (fun x4_ => Or.inr (Or.inr (Or.inr (Or.inr (Or.inl (x4_)))))) (fun y4_ => y4_.elim (fun x5_ => Or.inr (Or.inr (Or.inr (Or.inr (Or.inr (Or.inl (x5_))))))) (fun y5_ => y5_.elim (fun x6_ => Or.inr (Or.inr (Or.inr (Or.inr (Or.inr (Or.inr (Or.inl (x6_)))))))) (fun y6_ => y6_.elim (fun x7_ => Or.inr (Or.inr (Or.inr (Or.inr (Or.inr (Or.inr (Or.inr (Or.inl (x7_))))))))) (fun y7_ => y7_.elim (fun x8_ => Or.inr (Or.inr (Or.inr (Or.inr (Or.inr (Or.inr (Or.inr (Or.inr (Or.inl (x8_)))))))))) (fun y8_ => y8_.elim (fun x9_ => Or.inr (Or.inr (Or.inr (Or.inr (Or.inr (Or.inr (Or.inr (Or.inr (Or.inr (Or.inl (x9_))))))))))) (fun y9_ => y9_.elim (fun x10_ => Or.inr (Or.inr (Or.inr (Or.inr (Or.inr (Or.inr (Or.inr (Or.inr (Or.inr (Or.inr (Or.inl (x10_)))))))))))) (fun y10_ => y10_.elim (fun x11_ => Or.inr (Or.inr (Or.inr (Or.inr (Or.inr (Or.inr (Or.inr (Or.inr (Or.inr (Or.inr (Or.inr (Or.inl (x11_))))))))))))) (fun y11_ => y11_.elim (fun x12_ => Or.inr (Or.inr (Or.inr (Or.inr (Or.inr (Or.inr (Or.inr (Or.inr (Or.inr (Or.inr (Or.inr (Or.inr (Or.inl (x12_)))))))))))))) (fun y12_ => y12_.elim (fun x13_ => Or.inr (Or.inr (Or.inr (Or.inr (Or.inr (Or.inr (Or.inr (Or.inr (Or.inr (Or.inr (Or.inr (Or.inr (Or.inr (Or.inl (x13_))))))))))))))) (fun y13_ => y13_.elim (fun x14_ => Or.inr (Or.inr (Or.inr (Or.inr (Or.inr (Or.inr (Or.inr (Or.inr (Or.inr (Or.inr (Or.inr (Or.inr (Or.inr (Or.inr (Or.inl (x14_)))))))))))))))) (fun y14_ => y14_.elim (fun x15_ => Or.inr (Or.inr (Or.inr (Or.inr (Or.inr (Or.inr (Or.inr (Or.inr (Or.inr (Or.inr (Or.inr (Or.inr (Or.inr (Or.inr (Or.inr (Or.inl (x15_))))))))))))))))) (fun y15_ => Or.inr (Or.inr (Or.inr (Or.inr (Or.inr (Or.inr (Or.inr (Or.inr (Or.inr (Or.inr (Or.inr (Or.inr (Or.inr (Or.inr (Or.inr (Or.inr (y15_))))))))))))))))))))))))))))))))))]), trivial⟩
    · skip
      refine dk_aload_n (pc' := 27) hE dX11_hour_26 rfl rfl rfl ?_
      refine gf_11_76 (pc' := 30) (w := 187) hE fl_X11_152 dX11_hour_27 is_141 rfl rfl ?_
      refine dk_iload_n (pc' := 31) hE dX11_hour_30 rfl rfl rfl ?_
      refine ga_115 (pc' := 32) hE dX11_hour_31 is_187 (by omega) rfl (fun v13 hv13 htv13 hbv13 => ?_)
      refine dk_goto (tgt := 36) hE dX11_hour_32 (by decide) ?_
      exact dk_iret (st := []) hE hR dX11_hour_36 ⟨_, rfl, (fun k_ j_ h_ => by rw [hfσ9 k_ j_ (fun w_ => h_ (w_.elim (fun x0_ => Or.inl (x0_)) (fun y0_ => y0_.elim (fun x1_ => Or.inr (Or.inl (x1_))) (fun y1_ => y1_.elim (fun x2_ => Or.inr (Or.inr (Or.inl (x2_)))) (fun y2_ => y2_.elim (fun x3_ => Or.inr (Or.inr (Or.inr (Or.inl (x3_))))) (fun y3_ => y3_.elim (fun x4_ => Or.inr (Or.inr (Or.inr (Or.inr (Or.inl (x4_)))))) (fun y4_ => y4_.elim (fun x5_ => Or.inr (Or.inr (Or.inr (Or.inr (Or.inr (Or.inl (x5_))))))) (fun y5_ => y5_.elim (fun x6_ => Or.inr (Or.inr (Or.inr (Or.inr (Or.inr (Or.inr (Or.inl (x6_)))))))) (fun y6_ => y6_.elim (fun x7_ => Or.inr (Or.inr (Or.inr (Or.inr (Or.inr (Or.inr (Or.inr (Or.inl (x7_))))))))) (fun y7_ => y7_.elim (fun x8_ => Or.inr (Or.inr (Or.inr (Or.inr (Or.inr (Or.inr (Or.inr (Or.inr (Or.inl (x8_)))))))))) (fun y8_ => y8_.elim (fun x9_ => Or.inr (Or.inr (Or.inr (Or.inr (Or.inr (Or.inr (Or.inr (Or.inr (Or.inr (Or.inl (x9_))))))))))) (fun y9_ => y9_.elim (fun x10_ => Or.inr (Or.inr (Or.inr (Or.inr (Or.inr (Or.inr (Or.inr (Or.inr (Or.inr (Or.inr (Or.inl (x10_)))))))))))) (fun y10_ => y10_.elim (fun x11_ => Or.inr (Or.inr (Or.inr (Or.inr (Or.inr (Or.inr (Or.inr (Or.inr (Or.inr (Or.inr (Or.inr (Or.inl (x11_))))))))))))) (fun y11_ => y11_.elim (fun x12_ => Or.inr (Or.inr (Or.inr (Or.inr (Or.inr (Or.inr (Or.inr (Or.inr (Or.inr (Or.inr (Or.inr (Or.inr (Or.inl (x12_)))))))))))))) (fun y12_ => y12_.elim (fun x13_ => Or.inr (Or.inr (Or.inr (Or.inr (Or.inr (Or.inr (Or.inr (Or.inr (Or.inr (Or.inr (Or.inr (Or.inr (Or.inr (Or.inl (x13_))))))))))))))) (fun y13_ => y13_.elim (fun x14_ => Or.inr (Or.inr (Or.inr (Or.inr (Or.inr (Or.inr (Or.inr (Or.inr (Or.inr (Or.inr (Or.inr (Or.inr (Or.inr (Or.inr (Or.inl (x14_)))))))))))))))) (fun y14_ => y14_.elim (fun x15_ => Or.inr (Or.inr (Or.inr (Or.inr (Or.inr (Or.inr (Or.inr (Or.inr (Or.inr (Or.inr (Or.inr (Or.inr (Or.inr (Or.inr (Or.inr (Or.inl (x15_))))))))))))))))) (fun y15_ => Or.inr (Or.inr (Or.inr (Or.inr (Or.inr (Or.inr (Or.inr (Or.inr (Or.inr (Or.inr (Or.inr (Or.inr (Or.inr (Or.inr (Or.inr (Or.inr (y15_))))))))))))))))))))))))))))))))))]), trivial⟩
  · skip
    refine dk_if_ne (tgt := 16) (pc' := 14) hE dX11_hour_11 (by decide) rfl (fun hc14 => absurd hc14 (by decide)) (fun hc14 => ?_)
    refine dk_iconst (pc' := 15) hE dX11_hour_14 (by decide) rfl ?_
    exact dk_iret (st := []) hE hR dX11_hour_15 ⟨_, rfl, (fun k_ j_ h_ => rfl), trivial⟩
