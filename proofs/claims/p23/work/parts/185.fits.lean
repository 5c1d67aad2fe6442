set_option maxHeartbeats 4000000 in
set_option maxRecDepth 20000 in
theorem cn_X8_fits (l : Launch) (G : dkG) (hGd : dk_Gd G) : ∀ (N : Nat) (a u h : Int), 10 - a ≤ N → dk_Ct l G dk_Ty yX8_fits cX8_fits 5 (some .boolean) (N + 3) 190 190 (fun av σ => av = [(4, 88), (0, a), (0, u), (0, h)] ∧ (0 ≤ a ∧ a ≤ 9) ∧ (0 ≤ u ∧ u ≤ 9) ∧ (h ≤ 9)) (fun _ σ r_ σ' => ∃ z : Int, r_ = some (0, z) ∧ (∀ k_ j_ : Int, ¬ ((92 ≤ k_ ∧ k_ ≤ 94)) → σ' k_ j_ = σ k_ j_) ∧ (0 ≤ z ∧ z ≤ 1)) := by
  intro N
  induction N with
  | zero => intro a u h hN; exact fun av σ hpre _ => absurd hpre (fun q_ => by obtain ⟨_, q2⟩ := q_; omega)
  | succ N ih =>
  intro a u h hN
  refine dk_enter hGd (by decide) (fun av σ hpre hok => ?_)
  obtain ⟨rfl, ha, hu, hh⟩ := hpre
  refine ⟨Nat.le_of_ble_eq_true rfl, fun E hE hR _ => ?_⟩
  have hi_a : dk_i32 a := dk_oki (hok _ (by simp))
  have hi_u : dk_i32 u := dk_oki (hok _ (by simp))
  have hi_h : dk_i32 h := dk_oki (hok _ (by simp))
  show dk_PJ E 0 [(4, 88), (0, a), (0, u), (0, h), (9, 0)] [] 190 σ
  refine dk_iload_n (pc' := 1) hE dX8_fits_0 rfl rfl rfl ?_
  refine dk_aload_n (pc' := 2) hE dX8_fits_1 rfl rfl rfl ?_
  refine gf_8_6 (pc' := 5) hE fl_X8_34 dX8_fits_2 is_88 rfl (fun v1 hv1 htv1 hbv1 => ?_)
  refine dk_icmp_lt (tgt := 10) (pc' := 8) hE dX8_fits_5 (by decide) rfl (fun hc2 => ?_) (fun hc2 => ?_)
  · skip
    refine dk_iconst (pc' := 11) hE dX8_fits_10 (by decide) rfl ?_
    refine dk_istore (pc' := 13) (ls' := [(4, 88), (0, a), (0, u), (0, h), (0, 0)]) hE dX8_fits_11 rfl (by decide) rfl ?_
    have lp13 : ∀ (N_ : Nat) (i : Int) (σ13c : dkS), (2147483648 - i).toNat < N_ → ((∀ k_ j_ : Int, ¬ ((92 ≤ k_ ∧ k_ ≤ 94)) → σ13c k_ j_ = σ k_ j_)) → (0 ≤ i) → dk_PJ E 13 [(4, 88), (0, a), (0, u), (0, h), (0, i)] [] 190 σ13c := by
      intro N13
      induction N13 with
      | zero => intro i σ13c hm; exact absurd hm (Nat.not_lt_zero _)
      | succ N13 ih13 =>
        intro i σ13c hm13 hF13 hi0
        refine dk_iload (pc' := 15) hE dX8_fits_13 rfl rfl ?_
        refine dk_iload_n (pc' := 16) hE dX8_fits_15 rfl rfl rfl ?_
        refine dk_icmp_gt (tgt := 172) (pc' := 19) hE dX8_fits_16 (by decide) rfl (fun hc3 => ?_) (fun hc3 => ?_)
        · skip
          refine dk_iconst (pc' := 173) hE dX8_fits_172 (by decide) rfl ?_
          exact dk_zret (st := []) hE hR dX8_fits_173 (by omega) ⟨_, rfl, (fun k_ j_ h_ => by rw [hF13 k_ j_ (fun w_ => h_ (w_))]), by omega⟩
        · skip
          refine dk_iload (pc' := 21) hE dX8_fits_19 rfl rfl ?_
          refine dk_iload_n (pc' := 22) hE dX8_fits_21 rfl rfl rfl ?_
          refine dk_icmp_ge (tgt := 172) (pc' := 25) hE dX8_fits_22 (by decide) rfl (fun hc4 => ?_) (fun hc4 => ?_)
          · skip
            refine dk_iconst (pc' := 173) hE dX8_fits_172 (by decide) rfl ?_
            exact dk_zret (st := []) hE hR dX8_fits_173 (by omega) ⟨_, rfl, (fun k_ j_ h_ => by rw [hF13 k_ j_ (fun w_ => h_ (w_))]), by omega⟩
          · skip
            refine dk_iload (pc' := 27) hE dX8_fits_25 rfl rfl ?_
            refine dk_iload_n (pc' := 28) hE dX8_fits_27 rfl rfl rfl ?_
            refine dk_icmp_ne (tgt := 47) (pc' := 31) hE dX8_fits_28 (by decide) rfl (fun hc5 => ?_) (fun hc5 => ?_)
            · skip
              refine dk_aload_n (pc' := 48) hE dX8_fits_47 rfl rfl rfl ?_
              refine gf_8_5 (pc' := 51) (w := 94) hE fl_X8_27 dX8_fits_48 is_88 rfl rfl ?_
              refine dk_iload (pc' := 53) hE dX8_fits_51 rfl rfl ?_
              refine ga_58 (pc' := 54) hE dX8_fits_53 is_94 (by omega) rfl (fun v6 hv6 htv6 hbv6 => ?_)
              refine dk_aload_n (pc' := 55) hE dX8_fits_54 rfl rfl rfl ?_
              refine gf_8_7 (pc' := 58) hE fl_X8_30 dX8_fits_55 is_88 rfl (fun v7 hv7 htv7 hbv7 => ?_)
              refine dk_icmp_ge (tgt := 166) (pc' := 61) hE dX8_fits_58 (by decide) rfl (fun hc8 => ?_) (fun hc8 => ?_)
              · skip
                obtain ⟨v9, hv9⟩ : ∃ z : Int, z = i + 1 := ⟨_, rfl⟩
                refine dk_iinc (pc' := 169) (ls' := [(4, 88), (0, a), (0, u), (0, h), (0, v9)]) hE dX8_fits_166 rfl hv9.symm (by omega) rfl (by decide) rfl ?_
                refine dk_goto (tgt := 13) hE dX8_fits_169 (by decide) ?_
                exact ih13 v9 σ13c (by omega) (fun k_ j_ h_ => by rw [hF13 k_ j_ (fun w_ => h_ (w_))]) (by omega)
              · skip
                refine dk_aload_n (pc' := 62) hE dX8_fits_61 rfl rfl rfl ?_
                refine gf_8_4 (pc' := 65) (w := 93) hE fl_X8_24 dX8_fits_62 is_88 rfl rfl ?_
                refine dk_iload (pc' := 67) hE dX8_fits_65 rfl rfl ?_
                refine ga_57 (pc' := 68) hE dX8_fits_67 is_93 (by omega) rfl (fun v10 hv10 htv10 hbv10 => ?_)
                refine dk_aload_n (pc' := 69) hE dX8_fits_68 rfl rfl rfl ?_
                refine gf_8_2 (pc' := 72) (w := 91) hE fl_X8_18 dX8_fits_69 is_88 rfl rfl ?_
                refine dk_iload_n (pc' := 73) hE dX8_fits_72 rfl rfl rfl ?_
                refine ga_55 (pc' := 74) hE dX8_fits_73 is_91 (by omega) rfl (fun v11 hv11 htv11 hbv11 => ?_)
                refine dk_iand (pc' := 75) hE dX8_fits_74 rfl (fun v12 hv12 ev12 => ?_)
                refine dk_if_eq (tgt := 81) (pc' := 78) hE dX8_fits_75 (by decide) rfl (fun hc13 => ?_) (fun hc13 => ?_)
                · skip
                  refine dk_aload_n (pc' := 82) hE dX8_fits_81 rfl rfl rfl ?_
                  refine gf_8_4 (pc' := 85) (w := 93) hE fl_X8_24 dX8_fits_82 is_88 rfl rfl ?_
                  refine dk_iload (pc' := 87) hE dX8_fits_85 rfl rfl ?_
                  refine dk_dup2 (pc' := 88) hE dX8_fits_87 (show (0 : Nat) ≠ 3 by decide) (show (4 : Nat) ≠ 3 by decide) rfl ?_
                  refine ga_57 (pc' := 89) hE dX8_fits_88 is_93 (by omega) rfl (fun v14 hv14 htv14 hbv14 => ?_)
                  have hq14 : v10 = v14 := (show v14 = v10 by rw [hv14, hv10]).symm
                  subst hq14
                  clear htv14 hbv14
                  refine dk_aload_n (pc' := 90) hE dX8_fits_89 rfl rfl rfl ?_
                  refine gf_8_2 (pc' := 93) (w := 91) hE fl_X8_18 dX8_fits_90 is_88 rfl rfl ?_
                  refine dk_iload_n (pc' := 94) hE dX8_fits_93 rfl rfl rfl ?_
                  refine ga_55 (pc' := 95) hE dX8_fits_94 is_91 (by omega) rfl (fun v15 hv15 htv15 hbv15 => ?_)
                  have hq15 : v11 = v15 := (show v15 = v11 by rw [hv15, hv11]).symm
                  subst hq15
                  clear htv15 hbv15
                  refine dk_ior (pc' := 96) hE dX8_fits_95 rfl (fun v16 hv16 ev16 => ?_)
                  refine pa_57 (pc' := 97) hE dX8_fits_96 is_93 (by omega) trivial rfl (fun σ17 eσ17 => ?_)
                  refine dk_aload_n (pc' := 98) hE dX8_fits_97 rfl rfl rfl ?_
                  refine gf_8_5 (pc' := 101) (w := 94) hE fl_X8_27 dX8_fits_98 is_88 rfl rfl ?_
                  refine dk_iload (pc' := 103) hE dX8_fits_101 rfl rfl ?_
                  refine dk_dup2 (pc' := 104) hE dX8_fits_103 (show (0 : Nat) ≠ 3 by decide) (show (4 : Nat) ≠ 3 by decide) rfl ?_
                  refine ga_58 (pc' := 105) hE dX8_fits_104 is_94 (by omega) rfl (fun v18 hv18 htv18 hbv18 => ?_)
                  have hq18 : v6 = v18 := (show v18 = v6 by rw [hv18, eσ17, dk_up_n (show ¬ (94 = 93 ∧ i = i) by omega), hv6]).symm
                  subst hq18
                  clear htv18 hbv18
                  refine dk_iconst (pc' := 106) hE dX8_fits_105 (by decide) rfl ?_
                  refine dk_iaddW (pc' := 107) hE dX8_fits_106 rfl (fun v19 hv19 _ => ?_)
                  refine pa_58 (pc' := 108) hE dX8_fits_107 is_94 (by omega) trivial rfl (fun σ20 eσ20 => ?_)
                  refine dk_aload_n (pc' := 109) hE dX8_fits_108 rfl rfl rfl ?_
                  refine gf_8_3 (pc' := 112) (w := 92) hE fl_X8_21 dX8_fits_109 is_88 rfl rfl ?_
                  refine dk_iload_n (pc' := 113) hE dX8_fits_112 rfl rfl rfl ?_
                  refine dk_iload (pc' := 115) hE dX8_fits_113 rfl rfl ?_
                  refine pa_56 (pc' := 116) hE dX8_fits_115 is_92 (by omega) (by omega) rfl (fun σ21 eσ21 => ?_)
                  refine dk_aload_n (pc' := 117) hE dX8_fits_116 rfl rfl rfl ?_
                  refine dk_iload_n (pc' := 118) hE dX8_fits_117 rfl rfl rfl ?_
                  refine dk_iconst (pc' := 119) hE dX8_fits_118 (by decide) rfl ?_
                  obtain ⟨v22, hv22⟩ : ∃ z : Int, z = a + 1 := ⟨_, rfl⟩
                  refine dk_iadd (pc' := 120) hE dX8_fits_119 hv22.symm (by omega) rfl ?_
                  refine dk_iload_n (pc' := 121) hE dX8_fits_120 rfl rfl rfl ?_
                  refine dk_iload (pc' := 123) hE dX8_fits_121 rfl rfl ?_
                  refine dk_iconst (pc' := 124) hE dX8_fits_123 (by decide) rfl ?_
                  obtain ⟨v23, hv23⟩ : ∃ z : Int, z = i + 1 := ⟨_, rfl⟩
                  refine dk_iadd (pc' := 125) hE dX8_fits_124 hv23.symm (by omega) rfl ?_
                  refine dk_mmax (pc' := 128) hE wd_1254 dX8_fits_125 (Nat.le_of_ble_eq_true rfl) (by omega) rfl (fun v24 hv24 => ?_)
                  refine dk_iload_n (pc' := 129) hE dX8_fits_128 rfl rfl rfl ?_
                  refine dk_cV (pc' := 132) (as := [(0, v22), (0, v24), (0, h)]) hE lk_X8_37 (ih v22 v24 h (by omega)) dX8_fits_129 rfl is_88 rfl (by omega) (Nat.le_of_ble_eq_true rfl) ⟨rfl, (by omega), (by omega), (by omega)⟩ rfl (fun r26 σ25 hr26 hor26 => ?_)
                  obtain ⟨v27, rfl, hfσ25, hpr26⟩ := hr26
                  refine dk_if_eq (tgt := 137) (pc' := 135) hE dX8_fits_132 (by decide) rfl (fun hc28 => ?_) (fun hc28 => ?_)
                  · skip
                    refine dk_aload_n (pc' := 138) hE dX8_fits_137 rfl rfl rfl ?_
                    refine gf_8_4 (pc' := 141) (w := 93) hE fl_X8_24 dX8_fits_138 is_88 rfl rfl ?_
                    refine dk_iload (pc' := 143) hE dX8_fits_141 rfl rfl ?_
                    refine dk_dup2 (pc' := 144) hE dX8_fits_143 (show (0 : Nat) ≠ 3 by decide) (show (4 : Nat) ≠ 3 by decide) rfl ?_
                    refine ga_57 (pc' := 145) hE dX8_fits_144 is_93 (by omega) rfl (fun v29 hv29 htv29 hbv29 => ?_)
                    refine dk_aload_n (pc' := 146) hE dX8_fits_145 rfl rfl rfl ?_
                    refine gf_8_2 (pc' := 149) (w := 91) hE fl_X8_18 dX8_fits_146 is_88 rfl rfl ?_
                    refine dk_iload_n (pc' := 150) hE dX8_fits_149 rfl rfl rfl ?_
                    refine ga_55 (pc' := 151) hE dX8_fits_150 is_91 (by omega) rfl (fun v30 hv30 htv30 hbv30 => ?_)
                    have hq30 : v11 = v30 := (show v30 = v11 by rw [hv30, hfσ25 91 a (by omega), eσ21, dk_up_n (show ¬ (91 = 92 ∧ a = a) by omega), eσ20, dk_up_n (show ¬ (91 = 94 ∧ a = i) by omega), eσ17, dk_up_n (show ¬ (91 = 93 ∧ a = i) by omega), hv15]).symm
                    subst hq30
                    clear htv30 hbv30
                    refine dk_iconst (pc' := 152) hE dX8_fits_151 (by decide) rfl ?_
                    refine dk_ixor (pc' := 153) hE dX8_fits_152 rfl (fun v31 hv31 ev31 => ?_)
                    refine dk_iand (pc' := 154) hE dX8_fits_153 rfl (fun v32 hv32 ev32 => ?_)
                    refine pa_57 (pc' := 155) hE dX8_fits_154 is_93 (by omega) trivial rfl (fun σ33 eσ33 => ?_)
                    refine dk_aload_n (pc' := 156) hE dX8_fits_155 rfl rfl rfl ?_
                    refine gf_8_5 (pc' := 159) (w := 94) hE fl_X8_27 dX8_fits_156 is_88 rfl rfl ?_
                    refine dk_iload (pc' := 161) hE dX8_fits_159 rfl rfl ?_
                    refine dk_dup2 (pc' := 162) hE dX8_fits_161 (show (0 : Nat) ≠ 3 by decide) (show (4 : Nat) ≠ 3 by decide) rfl ?_
                    refine ga_58 (pc' := 163) hE dX8_fits_162 is_94 (by omega) rfl (fun v34 hv34 htv34 hbv34 => ?_)
                    refine dk_iconst (pc' := 164) hE dX8_fits_163 (by decide) rfl ?_
                    refine dk_isubW (pc' := 165) hE dX8_fits_164 rfl (fun v35 hv35 _ => ?_)
                    refine pa_58 (pc' := 166) hE dX8_fits_165 is_94 (by omega) trivial rfl (fun σ36 eσ36 => ?_)
                    obtain ⟨v37, hv37⟩ : ∃ z : Int, z = i + 1 := ⟨_, rfl⟩
                    refine dk_iinc (pc' := 169) (ls' := [(4, 88), (0, a), (0, u), (0, h), (0, v37)]) hE dX8_fits_166 rfl hv37.symm (by omega) rfl (by decide) rfl ?_
                    refine dk_goto (tgt := 13) hE dX8_fits_169 (by decide) ?_
                    exact ih13 v37 σ36 (by omega) (fun k_ j_ h_ => by rw [eσ36, dk_up_n (show ¬ (k_ = 94 ∧ j_ = i) from fun q_ => h_ (dk_wr (lo := 92) (hi := 94) q_.1 (by decide))), eσ33, dk_up_n (show ¬ (k_ = 93 ∧ j_ = i) from fun q_ => h_ (dk_wr (lo := 92) (hi := 94) q_.1 (by decide))), hfσ25 k_ j_ (fun w_ => h_ (w_)), eσ21, dk_up_n (show ¬ (k_ = 92 ∧ j_ = a) from fun q_ => h_ (dk_wr (lo := 92) (hi := 94) q_.1 (by decide))), eσ20, dk_up_n (show ¬ (k_ = 94 ∧ j_ = i) from fun q_ => h_ (dk_wr (lo := 92) (hi := 94) q_.1 (by decide))), eσ17, dk_up_n (show ¬ (k_ = 93 ∧ j_ = i) from fun q_ => h_ (dk_wr (lo := 92) (hi := 94) q_.1 (by decide))), hF13 k_ j_ (fun w_ => h_ (w_))]) (by omega)
                  · skip
                    refine dk_iconst (pc' := 136) hE dX8_fits_135 (by decide) rfl ?_
                    exact dk_zret (st := []) hE hR dX8_fits_136 (by omega) ⟨_, rfl, (fun k_ j_ h_ => by rw [hfσ25 k_ j_ (fun w_ => h_ (w_)), eσ21, dk_up_n (show ¬ (k_ = 92 ∧ j_ = a) from fun q_ => h_ (dk_wr (lo := 92) (hi := 94) q_.1 (by decide))), eσ20, dk_up_n (show ¬ (k_ = 94 ∧ j_ = i) from fun q_ => h_ (dk_wr (lo := 92) (hi := 94) q_.1 (by decide))), eσ17, dk_up_n (show ¬ (k_ = 93 ∧ j_ = i) from fun q_ => h_ (dk_wr (lo := 92) (hi := 94) q_.1 (by decide))), hF13 k_ j_ (fun w_ => h_ (w_))]), by omega⟩
                · skip
                  refine dk_goto (tgt := 166) hE dX8_fits_78 (by decide) ?_
                  obtain ⟨v38, hv38⟩ : ∃ z : Int, z = i + 1 := ⟨_, rfl⟩
                  refine dk_iinc (pc' := 169) (ls' := [(4, 88), (0, a), (0, u), (0, h), (0, v38)]) hE dX8_fits_166 rfl hv38.symm (by omega) rfl (by decide) rfl ?_
                  refine dk_goto (tgt := 13) hE dX8_fits_169 (by decide) ?_
                  exact ih13 v38 σ13c (by omega) (fun k_ j_ h_ => by rw [hF13 k_ j_ (fun w_ => h_ (w_))]) (by omega)
            · skip
              refine dk_aload_n (pc' := 32) hE dX8_fits_31 rfl rfl rfl ?_
              refine gf_8_4 (pc' := 35) (w := 93) hE fl_X8_24 dX8_fits_32 is_88 rfl rfl ?_
              refine dk_iload (pc' := 37) hE dX8_fits_35 rfl rfl ?_
              refine dk_iconst (pc' := 38) hE dX8_fits_37 (by decide) rfl ?_
              refine pa_57 (pc' := 39) hE dX8_fits_38 is_93 (by omega) trivial rfl (fun σ39 eσ39 => ?_)
              refine dk_aload_n (pc' := 40) hE dX8_fits_39 rfl rfl rfl ?_
              refine gf_8_5 (pc' := 43) (w := 94) hE fl_X8_27 dX8_fits_40 is_88 rfl rfl ?_
              refine dk_iload (pc' := 45) hE dX8_fits_43 rfl rfl ?_
              refine dk_iconst (pc' := 46) hE dX8_fits_45 (by decide) rfl ?_
              refine pa_58 (pc' := 47) hE dX8_fits_46 is_94 (by omega) trivial rfl (fun σ40 eσ40 => ?_)
              refine dk_aload_n (pc' := 48) hE dX8_fits_47 rfl rfl rfl ?_
              refine gf_8_5 (pc' := 51) (w := 94) hE fl_X8_27 dX8_fits_48 is_88 rfl rfl ?_
              refine dk_iload (pc' := 53) hE dX8_fits_51 rfl rfl ?_
              refine ga_58 (pc' := 54) hE dX8_fits_53 is_94 (by omega) rfl (fun v41 hv41 htv41 hbv41 => ?_)
              have hq41 : 0 = v41 := (show v41 = 0 by rw [hv41, eσ40, dk_up_s]).symm
              subst hq41
              clear htv41 hbv41
              refine dk_aload_n (pc' := 55) hE dX8_fits_54 rfl rfl rfl ?_
              refine gf_8_7 (pc' := 58) hE fl_X8_30 dX8_fits_55 is_88 rfl (fun v42 hv42 htv42 hbv42 => ?_)
              refine dk_icmp_ge (tgt := 166) (pc' := 61) hE dX8_fits_58 (by decide) rfl (fun hc43 => ?_) (fun hc43 => ?_)
              · skip
                obtain ⟨v44, hv44⟩ : ∃ z : Int, z = i + 1 := ⟨_, rfl⟩
                refine dk_iinc (pc' := 169) (ls' := [(4, 88), (0, a), (0, u), (0, h), (0, v44)]) hE dX8_fits_166 rfl hv44.symm (by omega) rfl (by decide) rfl ?_
                refine dk_goto (tgt := 13) hE dX8_fits_169 (by decide) ?_
                exact ih13 v44 σ40 (by omega) (fun k_ j_ h_ => by rw [eσ40, dk_up_n (show ¬ (k_ = 94 ∧ j_ = i) from fun q_ => h_ (dk_wr (lo := 92) (hi := 94) q_.1 (by decide))), eσ39, dk_up_n (show ¬ (k_ = 93 ∧ j_ = i) from fun q_ => h_ (dk_wr (lo := 92) (hi := 94) q_.1 (by decide))), hF13 k_ j_ (fun w_ => h_ (w_))]) (by omega)
              · skip
                refine dk_aload_n (pc' := 62) hE dX8_fits_61 rfl rfl rfl ?_
                refine gf_8_4 (pc' := 65) (w := 93) hE fl_X8_24 dX8_fits_62 is_88 rfl rfl ?_
                refine dk_iload (pc' := 67) hE dX8_fits_65 rfl rfl ?_
                refine ga_57 (pc' := 68) hE dX8_fits_67 is_93 (by omega) rfl (fun v45 hv45 htv45 hbv45 => ?_)
                have hq45 : 0 = v45 := (show v45 = 0 by rw [hv45, eσ40, dk_up_n (show ¬ (93 = 94 ∧ i = i) by omega), eσ39, dk_up_s]).symm
                subst hq45
                clear htv45 hbv45
                refine dk_aload_n (pc' := 69) hE dX8_fits_68 rfl rfl rfl ?_
                refine gf_8_2 (pc' := 72) (w := 91) hE fl_X8_18 dX8_fits_69 is_88 rfl rfl ?_
                refine dk_iload_n (pc' := 73) hE dX8_fits_72 rfl rfl rfl ?_
                refine ga_55 (pc' := 74) hE dX8_fits_73 is_91 (by omega) rfl (fun v46 hv46 htv46 hbv46 => ?_)
                refine dk_iand (pc' := 75) hE dX8_fits_74 rfl (fun v47 hv47 ev47 => ?_)
                refine dk_if_eq (tgt := 81) (pc' := 78) hE dX8_fits_75 (by decide) rfl (fun hc48 => ?_) (fun hc48 => ?_)
                · skip
                  refine dk_aload_n (pc' := 82) hE dX8_fits_81 rfl rfl rfl ?_
                  refine gf_8_4 (pc' := 85) (w := 93) hE fl_X8_24 dX8_fits_82 is_88 rfl rfl ?_
                  refine dk_iload (pc' := 87) hE dX8_fits_85 rfl rfl ?_
                  refine dk_dup2 (pc' := 88) hE dX8_fits_87 (show (0 : Nat) ≠ 3 by decide) (show (4 : Nat) ≠ 3 by decide) rfl ?_
                  refine ga_57 (pc' := 89) hE dX8_fits_88 is_93 (by omega) rfl (fun v49 hv49 htv49 hbv49 => ?_)
                  have hq49 : 0 = v49 := (show v49 = 0 by rw [hv49, hv45]).symm
                  subst hq49
                  clear htv49 hbv49
                  refine dk_aload_n (pc' := 90) hE dX8_fits_89 rfl rfl rfl ?_
                  refine gf_8_2 (pc' := 93) (w := 91) hE fl_X8_18 dX8_fits_90 is_88 rfl rfl ?_
                  refine dk_iload_n (pc' := 94) hE dX8_fits_93 rfl rfl rfl ?_
                  refine ga_55 (pc' := 95) hE dX8_fits_94 is_91 (by omega) rfl (fun v50 hv50 htv50 hbv50 => ?_)
                  have hq50 : v46 = v50 := (show v50 = v46 by rw [hv50, hv46]).symm
                  subst hq50
                  clear htv50 hbv50
                  refine dk_ior (pc' := 96) hE dX8_fits_95 rfl (fun v51 hv51 ev51 => ?_)
                  refine pa_57 (pc' := 97) hE dX8_fits_96 is_93 (by omega) trivial rfl (fun σ52 eσ52 => ?_)
                  refine dk_aload_n (pc' := 98) hE dX8_fits_97 rfl rfl rfl ?_
                  refine gf_8_5 (pc' := 101) (w := 94) hE fl_X8_27 dX8_fits_98 is_88 rfl rfl ?_
                  refine dk_iload (pc' := 103) hE dX8_fits_101 rfl rfl ?_
                  refine dk_dup2 (pc' := 104) hE dX8_fits_103 (show (0 : Nat) ≠ 3 by decide) (show (4 : Nat) ≠ 3 by decide) rfl ?_
                  refine ga_58 (pc' := 105) hE dX8_fits_104 is_94 (by omega) rfl (fun v53 hv53 htv53 hbv53 => ?_)
                  have hq53 : 0 = v53 := (show v53 = 0 by rw [hv53, eσ52, dk_up_n (show ¬ (94 = 93 ∧ i = i) by omega), hv41]).symm
                  subst hq53
                  clear htv53 hbv53
                  refine dk_iconst (pc' := 106) hE dX8_fits_105 (by decide) rfl ?_
                  refine dk_iadd (pc' := 107) hE dX8_fits_106 (z := 1) (by decide) (by decide) rfl ?_
                  refine pa_58 (pc' := 108) hE dX8_fits_107 is_94 (by omega) trivial rfl (fun σ54 eσ54 => ?_)
                  refine dk_aload_n (pc' := 109) hE dX8_fits_108 rfl rfl rfl ?_
                  refine gf_8_3 (pc' := 112) (w := 92) hE fl_X8_21 dX8_fits_109 is_88 rfl rfl ?_
                  refine dk_iload_n (pc' := 113) hE dX8_fits_112 rfl rfl rfl ?_
                  refine dk_iload (pc' := 115) hE dX8_fits_113 rfl rfl ?_
                  refine pa_56 (pc' := 116) hE dX8_fits_115 is_92 (by omega) (by omega) rfl (fun σ55 eσ55 => ?_)
                  refine dk_aload_n (pc' := 117) hE dX8_fits_116 rfl rfl rfl ?_
                  refine dk_iload_n (pc' := 118) hE dX8_fits_117 rfl rfl rfl ?_
                  refine dk_iconst (pc' := 119) hE dX8_fits_118 (by decide) rfl ?_
                  obtain ⟨v56, hv56⟩ : ∃ z : Int, z = a + 1 := ⟨_, rfl⟩
                  refine dk_iadd (pc' := 120) hE dX8_fits_119 hv56.symm (by omega) rfl ?_
                  refine dk_iload_n (pc' := 121) hE dX8_fits_120 rfl rfl rfl ?_
                  refine dk_iload (pc' := 123) hE dX8_fits_121 rfl rfl ?_
                  refine dk_iconst (pc' := 124) hE dX8_fits_123 (by decide) rfl ?_
                  obtain ⟨v57, hv57⟩ : ∃ z : Int, z = i + 1 := ⟨_, rfl⟩
                  refine dk_iadd (pc' := 125) hE dX8_fits_124 hv57.symm (by omega) rfl ?_
                  refine dk_mmax (pc' := 128) hE wd_1254 dX8_fits_125 (Nat.le_of_ble_eq_true rfl) (by omega) rfl (fun v58 hv58 => ?_)
                  refine dk_iload_n (pc' := 129) hE dX8_fits_128 rfl rfl rfl ?_
                  refine dk_cV (pc' := 132) (as := [(0, v56), (0, v58), (0, h)]) hE lk_X8_37 (ih v56 v58 h (by omega)) dX8_fits_129 rfl is_88 rfl (by omega) (Nat.le_of_ble_eq_true rfl) ⟨rfl, (by omega), (by omega), (by omega)⟩ rfl (fun r60 σ59 hr60 hor60 => ?_)
                  obtain ⟨v61, rfl, hfσ59, hpr60⟩ := hr60
                  refine dk_if_eq (tgt := 137) (pc' := 135) hE dX8_fits_132 (by decide) rfl (fun hc62 => ?_) (fun hc62 => ?_)
                  · skip
                    refine dk_aload_n (pc' := 138) hE dX8_fits_137 rfl rfl rfl ?_
                    refine gf_8_4 (pc' := 141) (w := 93) hE fl_X8_24 dX8_fits_138 is_88 rfl rfl ?_
                    refine dk_iload (pc' := 143) hE dX8_fits_141 rfl rfl ?_
                    refine dk_dup2 (pc' := 144) hE dX8_fits_143 (show (0 : Nat) ≠ 3 by decide) (show (4 : Nat) ≠ 3 by decide) rfl ?_
                    refine ga_57 (pc' := 145) hE dX8_fits_144 is_93 (by omega) rfl (fun v63 hv63 htv63 hbv63 => ?_)
                    refine dk_aload_n (pc' := 146) hE dX8_fits_145 rfl rfl rfl ?_
                    refine gf_8_2 (pc' := 149) (w := 91) hE fl_X8_18 dX8_fits_146 is_88 rfl rfl ?_
                    refine dk_iload_n (pc' := 150) hE dX8_fits_149 rfl rfl rfl ?_
                    refine ga_55 (pc' := 151) hE dX8_fits_150 is_91 (by omega) rfl (fun v64 hv64 htv64 hbv64 => ?_)
                    have hq64 : v46 = v64 := (show v64 = v46 by rw [hv64, hfσ59 91 a (by omega), eσ55, dk_up_n (show ¬ (91 = 92 ∧ a = a) by omega), eσ54, dk_up_n (show ¬ (91 = 94 ∧ a = i) by omega), eσ52, dk_up_n (show ¬ (91 = 93 ∧ a = i) by omega), hv50]).symm
                    subst hq64
                    clear htv64 hbv64
                    refine dk_iconst (pc' := 152) hE dX8_fits_151 (by decide) rfl ?_
                    refine dk_ixor (pc' := 153) hE dX8_fits_152 rfl (fun v65 hv65 ev65 => ?_)
                    refine dk_iand (pc' := 154) hE dX8_fits_153 rfl (fun v66 hv66 ev66 => ?_)
                    refine pa_57 (pc' := 155) hE dX8_fits_154 is_93 (by omega) trivial rfl (fun σ67 eσ67 => ?_)
                    refine dk_aload_n (pc' := 156) hE dX8_fits_155 rfl rfl rfl ?_
                    refine gf_8_5 (pc' := 159) (w := 94) hE fl_X8_27 dX8_fits_156 is_88 rfl rfl ?_
                    refine dk_iload (pc' := 161) hE dX8_fits_159 rfl rfl ?_
                    refine dk_dup2 (pc' := 162) hE dX8_fits_161 (show (0 : Nat) ≠ 3 by decide) (show (4 : Nat) ≠ 3 by decide) rfl ?_
                    refine ga_58 (pc' := 163) hE dX8_fits_162 is_94 (by omega) rfl (fun v68 hv68 htv68 hbv68 => ?_)
                    refine dk_iconst (pc' := 164) hE dX8_fits_163 (by decide) rfl ?_
                    refine dk_isubW (pc' := 165) hE dX8_fits_164 rfl (fun v69 hv69 _ => ?_)
                    refine pa_58 (pc' := 166) hE dX8_fits_165 is_94 (by omega) trivial rfl (fun σ70 eσ70 => ?_)
                    obtain ⟨v71, hv71⟩ : ∃ z : Int, z = i + 1 := ⟨_, rfl⟩
                    refine dk_iinc (pc' := 169) (ls' := [(4, 88), (0, a), (0, u), (0, h), (0, v71)]) hE dX8_fits_166 rfl hv71.symm (by omega) rfl (by decide) rfl ?_
                    refine dk_goto (tgt := 13) hE dX8_fits_169 (by decide) ?_
                    exact ih13 v71 σ70 (by omega) (fun k_ j_ h_ => by rw [eσ70, dk_up_n (show ¬ (k_ = 94 ∧ j_ = i) from fun q_ => h_ (dk_wr (lo := 92) (hi := 94) q_.1 (by decide))), eσ67, dk_up_n (show ¬ (k_ = 93 ∧ j_ = i) from fun q_ => h_ (dk_wr (lo := 92) (hi := 94) q_.1 (by decide))), hfσ59 k_ j_ (fun w_ => h_ (w_)), eσ55, dk_up_n (show ¬ (k_ = 92 ∧ j_ = a) from fun q_ => h_ (dk_wr (lo := 92) (hi := 94) q_.1 (by decide))), eσ54, dk_up_n (show ¬ (k_ = 94 ∧ j_ = i) from fun q_ => h_ (dk_wr (lo := 92) (hi := 94) q_.1 (by decide))), eσ52, dk_up_n (show ¬ (k_ = 93 ∧ j_ = i) from fun q_ => h_ (dk_wr (lo := 92) (hi := 94) q_.1 (by decide))), eσ40, dk_up_n (show ¬ (k_ = 94 ∧ j_ = i) from fun q_ => h_ (dk_wr (lo := 92) (hi := 94) q_.1 (by decide))), eσ39, dk_up_n (show ¬ (k_ = 93 ∧ j_ = i) from fun q_ => h_ (dk_wr (lo := 92) (hi := 94) q_.1 (by decide))), hF13 k_ j_ (fun w_ => h_ (w_))]) (by omega)
                  · skip
                    refine dk_iconst (pc' := 136) hE dX8_fits_135 (by decide) rfl ?_
                    exact dk_zret (st := []) hE hR dX8_fits_136 (by omega) ⟨_, rfl, (fun k_ j_ h_ => by rw [hfσ59 k_ j_ (fun w_ => h_ (w_)), eσ55, dk_up_n (show ¬ (k_ = 92 ∧ j_ = a) from fun q_ => h_ (dk_wr (lo := 92) (hi := 94) q_.1 (by decide))), eσ54, dk_up_n (show ¬ (k_ = 94 ∧ j_ = i) from fun q_ => h_ (dk_wr (lo := 92) (hi := 94) q_.1 (by decide))), eσ52, dk_up_n (show ¬ (k_ = 93 ∧ j_ = i) from fun q_ => h_ (dk_wr (lo := 92) (hi := 94) q_.1 (by decide))), eσ40, dk_up_n (show ¬ (k_ = 94 ∧ j_ = i) from fun q_ => h_ (dk_wr (lo := 92) (hi := 94) q_.1 (by decide))), eσ39, dk_up_n (show ¬ (k_ = 93 ∧ j_ = i) from fun q_ => h_ (dk_wr (lo := 92) (hi := 94) q_.1 (by decide))), hF13 k_ j_ (fun w_ => h_ (w_))]), by omega⟩
                · skip
                  refine dk_goto (tgt := 166) hE dX8_fits_78 (by decide) ?_
                  obtain ⟨v72, hv72⟩ : ∃ z : Int, z = i + 1 := ⟨_, rfl⟩
                  refine dk_iinc (pc' := 169) (ls' := [(4, 88), (0, a), (0, u), (0, h), (0, v72)]) hE dX8_fits_166 rfl hv72.symm (by omega) rfl (by decide) rfl ?_
                  refine dk_goto (tgt := 13) hE dX8_fits_169 (by decide) ?_
                  exact ih13 v72 σ40 (by omega) (fun k_ j_ h_ => by rw [eσ40, dk_up_n (show ¬ (k_ = 94 ∧ j_ = i) from fun q_ => h_ (dk_wr (lo := 92) (hi := 94) q_.1 (by decide))), eσ39, dk_up_n (show ¬ (k_ = 93 ∧ j_ = i) from fun q_ => h_ (dk_wr (lo := 92) (hi := 94) q_.1 (by decide))), hF13 k_ j_ (fun w_ => h_ (w_))]) (by omega)
    exact lp13 _ 0 σ (Nat.lt_succ_self _) (fun k_ j_ h_ => rfl) (by omega)
  · skip
    refine dk_iconst (pc' := 9) hE dX8_fits_8 (by decide) rfl ?_
    exact dk_zret (st := []) hE hR dX8_fits_9 (by omega) ⟨_, rfl, (fun k_ j_ h_ => rfl), by omega⟩
theorem ct_X8_fits (l : Launch) (G : dkG) (hGd : dk_Gd G) (a u h : Int) : dk_Ct l G dk_Ty yX8_fits cX8_fits 5 (some .boolean) 13 190 190 (fun av σ => av = [(4, 88), (0, a), (0, u), (0, h)] ∧ (0 ≤ a ∧ a ≤ 9) ∧ (0 ≤ u ∧ u ≤ 9) ∧ (h ≤ 9)) (fun _ σ r_ σ' => ∃ z : Int, r_ = some (0, z) ∧ (∀ k_ j_ : Int, ¬ ((92 ≤ k_ ∧ k_ ≤ 94)) → σ' k_ j_ = σ k_ j_) ∧ (0 ≤ z ∧ z ≤ 1)) := fun av σ hp ho => cn_X8_fits l G hGd 10 a u h (by obtain ⟨_, q, _⟩ := hp; omega) av σ hp ho
set_option maxHeartbeats 4000000 in
set_option maxRecDepth 20000 in
theorem ct_X8_plan (l : Launch) (G : dkG) (hGd : dk_Gd G) : dk_Ct l G dk_Ty yX8_plan cX8_plan 2 (some .int) 14 190 190 (fun av σ => av = [(4, 88)]) (fun _ σ r_ σ' => ∃ z : Int, r_ = some (0, z) ∧ (∀ k_ j_ : Int, ¬ ((92 ≤ k_ ∧ k_ ≤ 94)) → σ' k_ j_ = σ k_ j_) ∧ (0 ≤ z ∧ z ≤ 9)) := by
  refine dk_enter hGd (by decide) (fun av σ hpre hok => ?_)
  subst hpre
  refine ⟨Nat.le_of_ble_eq_true rfl, fun E hE hR _ => ?_⟩
  show dk_PJ E 0 [(4, 88), (9, 0)] [] 190 σ
  refine dk_iconst (pc' := 1) hE dX8_plan_0 (by decide) rfl ?_
  refine dk_istore_n (pc' := 2) (ls' := [(4, 88), (0, 1)]) hE dX8_plan_1 rfl rfl (by decide) rfl ?_
  have lp2 : ∀ (N_ : Nat) (i : Int) (σ2c : dkS), (2147483648 - i).toNat < N_ → ((∀ k_ j_ : Int, ¬ ((92 ≤ k_ ∧ k_ ≤ 94)) → σ2c k_ j_ = σ k_ j_)) → (0 ≤ i) → (1 ≤ i) → dk_PJ E 2 [(4, 88), (0, i)] [] 190 σ2c := by
    intro N2
    induction N2 with
    | zero => intro i σ2c hm; exact absurd hm (Nat.not_lt_zero _)
    | succ N2 ih2 =>
      intro i σ2c hm2 hF2 hi0 hi1
      refine dk_iload_n (pc' := 3) hE dX8_plan_2 rfl rfl rfl ?_
      refine dk_aload_n (pc' := 4) hE dX8_plan_3 rfl rfl rfl ?_
      refine gf_8_6 (pc' := 7) hE fl_X8_34 dX8_plan_4 is_88 rfl (fun v1 hv1 htv1 hbv1 => ?_)
      refine dk_icmp_ge (tgt := 28) (pc' := 10) hE dX8_plan_7 (by decide) rfl (fun hc2 => ?_) (fun hc2 => ?_)
      · skip
        refine dk_aload_n (pc' := 29) hE dX8_plan_28 rfl rfl rfl ?_
        refine dk_iconst (pc' := 30) hE dX8_plan_29 (by decide) rfl ?_
        refine dk_iconst (pc' := 31) hE dX8_plan_30 (by decide) rfl ?_
        refine dk_aload_n (pc' := 32) hE dX8_plan_31 rfl rfl rfl ?_
        refine gf_8_6 (pc' := 35) hE fl_X8_34 dX8_plan_32 is_88 rfl (fun v3 hv3 htv3 hbv3 => ?_)
        have hq3 : v1 = v3 := (show v3 = v1 by rw [hv3, hv1]).symm
        subst hq3
        clear htv3 hbv3
        refine dk_cV (pc' := 38) (as := [(0, 0), (0, 0), (0, v1)]) hE lk_X8_37 (ct_X8_fits l G hGd 0 0 v1) dX8_plan_35 rfl is_88 rfl (by decide) (Nat.le_of_ble_eq_true rfl) ⟨rfl, (by omega), (by omega), (by omega)⟩ rfl (fun r5 σ4 hr5 hor5 => ?_)
        obtain ⟨v6, rfl, hfσ4, hpr5⟩ := hr5
        refine dk_pop (pc' := 39) hE dX8_plan_38 (show (0 : Nat) ≠ 3 by decide) rfl ?_
        refine dk_aload_n (pc' := 40) hE dX8_plan_39 rfl rfl rfl ?_
        refine gf_8_6 (pc' := 43) hE fl_X8_34 dX8_plan_40 is_88 rfl (fun v7 hv7 htv7 hbv7 => ?_)
        have hq7 : v1 = v7 := (show v7 = v1 by rw [hv7, hfσ4 88 6 (by omega), hv3]).symm
        subst hq7
        clear htv7 hbv7
        exact dk_iret (st := []) hE hR dX8_plan_43 ⟨_, rfl, (fun k_ j_ h_ => by rw [hfσ4 k_ j_ (fun w_ => h_ (w_)), hF2 k_ j_ (fun w_ => h_ (w_))]), by omega⟩
      · skip
        refine dk_aload_n (pc' := 11) hE dX8_plan_10 rfl rfl rfl ?_
        refine dk_iconst (pc' := 12) hE dX8_plan_11 (by decide) rfl ?_
        refine dk_iconst (pc' := 13) hE dX8_plan_12 (by decide) rfl ?_
        refine dk_iload_n (pc' := 14) hE dX8_plan_13 rfl rfl rfl ?_
        refine dk_cV (pc' := 17) (as := [(0, 0), (0, 0), (0, i)]) hE lk_X8_37 (ct_X8_fits l G hGd 0 0 i) dX8_plan_14 rfl is_88 rfl (by decide) (Nat.le_of_ble_eq_true rfl) ⟨rfl, (by omega), (by omega), (by omega)⟩ rfl (fun r9 σ8 hr9 hor9 => ?_)
        obtain ⟨v10, rfl, hfσ8, hpr9⟩ := hr9
        refine dk_if_eq (tgt := 22) (pc' := 20) hE dX8_plan_17 (by decide) rfl (fun hc11 => ?_) (fun hc11 => ?_)
        · skip
          obtain ⟨v12, hv12⟩ : ∃ z : Int, z = i + 1 := ⟨_, rfl⟩
          refine dk_iinc (pc' := 25) (ls' := [(4, 88), (0, v12)]) hE dX8_plan_22 rfl hv12.symm (by omega) rfl (by decide) rfl ?_
          refine dk_goto (tgt := 2) hE dX8_plan_25 (by decide) ?_
          exact ih2 v12 σ8 (by omega) (fun k_ j_ h_ => by rw [hfσ8 k_ j_ (fun w_ => h_ (w_)), hF2 k_ j_ (fun w_ => h_ (w_))]) (by omega) (by omega)
        · skip
          refine dk_iload_n (pc' := 21) hE dX8_plan_20 rfl rfl rfl ?_
          exact dk_iret (st := []) hE hR dX8_plan_21 ⟨_, rfl, (fun k_ j_ h_ => by rw [hfσ8 k_ j_ (fun w_ => h_ (w_)), hF2 k_ j_ (fun w_ => h_ (w_))]), by omega⟩
  exact lp2 _ 1 σ (Nat.lt_succ_self _) (fun k_ j_ h_ => rfl) (by omega) (by omega)
