theorem fpn16_8 {k j : Int} (h : k = 8) : ¬ sFP k j := by subst h; omega
theorem fpw16_2838667018 : ∀ k_ j_ : Int, sFP k_ j_ → ¬ ((k_ = 8 ∧ j_ = 5) ∨ (k_ = 8 ∧ j_ = 6)) := by intro k_ j_ h; omega
theorem fpw16_3205328614 : ∀ k_ j_ : Int, sFP k_ j_ → ¬ (k_ = 6) := by intro k_ j_ h; omega
theorem fpw16_3236895349 : ∀ k_ j_ : Int, sFP k_ j_ → ¬ (k_ = 6 ∨ (k_ = 8 ∧ j_ = 2) ∨ (k_ = 8 ∧ j_ = 5) ∨ (k_ = 8 ∧ j_ = 6) ∨ k_ = 9) := by intro k_ j_ h; omega
theorem fpw16_1614500924 : ∀ k_ j_ : Int, sFP k_ j_ → ¬ (k_ = 6 ∨ (k_ = 8 ∧ j_ = 5) ∨ (k_ = 8 ∧ j_ = 6)) := by intro k_ j_ h; omega
set_option maxHeartbeats 4000000 in
set_option maxRecDepth 20000 in
theorem ct_X5_takePart (l : Launch) (G : dkG) (hGd : dk_Gd G) (b s : Int) : dk_Ct l G dk_Ty yX5_takePart cX5_takePart 4 (some .boolean) 7 190 190 (fun av σ => av = [(4, 8), (0, b)] ∧ (GI σ) ∧ (dk_sc s) ∧ (s = σ 8 4) ∧ (0 ≤ b ∧ b ≤ 1)) (fun _ σ r_ σ' => ∃ z : Int, r_ = some (0, z) ∧ (∀ k_ j_ : Int, ¬ (k_ = 6 ∨ (k_ = 8 ∧ j_ = 2) ∨ (k_ = 8 ∧ j_ = 5) ∨ (k_ = 8 ∧ j_ = 6) ∨ k_ = 9 ∨ (k_ = 8 ∧ j_ = 3) ∨ (95 ≤ k_ ∧ k_ ≤ 140)) → σ' k_ j_ = σ k_ j_) ∧ ((0 ≤ z ∧ z ≤ 1) ∧ GI σ')) := by
  refine dk_enter hGd (by decide) (fun av σ hpre hok => ?_)
  obtain ⟨rfl, hG, hs, h84, hb⟩ := hpre
  refine ⟨Nat.le_of_ble_eq_true rfl, fun E hE hR _ => ?_⟩
  have hi_b : dk_i32 b := dk_oki (hok _ (by simp))
  show dk_PJ E 0 [(4, 8), (0, b), (9, 0), (9, 0)] [] 190 σ
  refine dk_aload_n (pc' := 1) hE dX5_takePart_0 rfl rfl rfl ?_
  refine gf_5_4 (pc' := 4) hE fl_X5_21 dX5_takePart_1 is_8 rfl (fun v1 hv1 htv1 hbv1 => ?_)
  have hq1 : s = v1 := (show v1 = s by rw [hv1, h84]).symm
  subst hq1
  clear htv1 hbv1
  refine gf_4_11 (pc' := 7) hE fl_X5_96 dX5_takePart_4 (sc_is (by omega)) rfl (fun v2 hv2 htv2 hbv2 => ?_)
  refine dk_iconst (pc' := 8) hE dX5_takePart_7 (by decide) rfl ?_
  obtain ⟨v3, hv3⟩ : ∃ z : Int, z = v2 - 1 := ⟨_, rfl⟩
  refine dk_isub (pc' := 9) hE dX5_takePart_8 hv3.symm (by omega) rfl ?_
  refine dk_istore_n (pc' := 10) (ls' := [(4, 8), (0, b), (0, v3), (9, 0)]) hE dX5_takePart_9 rfl rfl (by decide) rfl ?_
  refine dk_iload_n (pc' := 11) hE dX5_takePart_10 rfl rfl rfl ?_
  refine dk_if_lt (tgt := 40) (pc' := 14) hE dX5_takePart_11 (by decide) rfl (fun hc4 => ?_) (fun hc4 => ?_)
  · skip
    refine dk_aload_n (pc' := 41) hE dX5_takePart_40 rfl rfl rfl ?_
    refine dk_iconst (pc' := 42) hE dX5_takePart_41 (by decide) rfl ?_
    refine dk_cV (pc' := 45) (as := [(0, 2)]) hE lk_X5_69 (ct_X5_refuse l G hGd 2) dX5_takePart_42 rfl is_8 rfl (by decide) (Nat.le_of_ble_eq_true rfl) rfl rfl (fun r6 σ5 hr6 _ => ?_)
    obtain ⟨v7, rfl, hfσ5, hpr6⟩ := hr6
    have gi8 : GI σ5 := GI_fr hG (fun k_ j_ h_ => by rw [hfσ5 k_ j_ (fpw16_2838667018 k_ j_ h_)])
    exact dk_zret (st := []) hE hR dX5_takePart_45 (by omega) ⟨_, rfl, (fun k_ j_ h_ => by rw [hfσ5 k_ j_ (fun w_ => h_ (w_.elim (fun x0_ => Or.inr (Or.inr (Or.inl (x0_)))) (fun y0_ => Or.inr (Or.inr (Or.inr (Or.inl (y0_)))))))]), ⟨by omega, gi8⟩⟩
  · skip
    refine dk_aload_n (pc' := 15) hE dX5_takePart_14 rfl rfl rfl ?_
    refine gf_5_4 (pc' := 18) hE fl_X5_21 dX5_takePart_15 is_8 rfl (fun v9 hv9 htv9 hbv9 => ?_)
    have hq9 : s = v9 := (show v9 = s by rw [hv9, hv1]).symm
    subst hq9
    clear htv9 hbv9
    refine gf_4_12 (pc' := 21) hE fl_X5_106 dX5_takePart_18 (sc_is (by omega)) rfl (fun v10 hv10 htv10 hbv10 => ?_)
    refine dk_bipush (pc' := 23) hE dX5_takePart_21 (by decide) rfl ?_
    refine dk_icmp_ge (tgt := 40) (pc' := 26) hE dX5_takePart_23 (by decide) rfl (fun hc11 => ?_) (fun hc11 => ?_)
    · skip
      refine dk_aload_n (pc' := 41) hE dX5_takePart_40 rfl rfl rfl ?_
      refine dk_iconst (pc' := 42) hE dX5_takePart_41 (by decide) rfl ?_
      refine dk_cV (pc' := 45) (as := [(0, 2)]) hE lk_X5_69 (ct_X5_refuse l G hGd 2) dX5_takePart_42 rfl is_8 rfl (by decide) (Nat.le_of_ble_eq_true rfl) rfl rfl (fun r13 σ12 hr13 _ => ?_)
      obtain ⟨v14, rfl, hfσ12, hpr13⟩ := hr13
      have gi15 : GI σ12 := GI_fr hG (fun k_ j_ h_ => by rw [hfσ12 k_ j_ (fpw16_2838667018 k_ j_ h_)])
      exact dk_zret (st := []) hE hR dX5_takePart_45 (by omega) ⟨_, rfl, (fun k_ j_ h_ => by rw [hfσ12 k_ j_ (fun w_ => h_ (w_.elim (fun x0_ => Or.inr (Or.inr (Or.inl (x0_)))) (fun y0_ => Or.inr (Or.inr (Or.inr (Or.inl (y0_)))))))]), ⟨by omega, gi15⟩⟩
    · skip
      refine dk_aload_n (pc' := 27) hE dX5_takePart_26 rfl rfl rfl ?_
      refine gf_5_4 (pc' := 30) hE fl_X5_21 dX5_takePart_27 is_8 rfl (fun v16 hv16 htv16 hbv16 => ?_)
      have hq16 : s = v16 := (show v16 = s by rw [hv16, hv9]).symm
      subst hq16
      clear htv16 hbv16
      refine gf_4_10 (pc' := 33) (w := (s + 22)) hE fl_X5_109 dX5_takePart_30 (sc_is (by omega)) rfl rfl ?_
      refine dk_iload_n (pc' := 34) hE dX5_takePart_33 rfl rfl rfl ?_
      refine ga_69 (pc' := 35) hE dX5_takePart_34 (sc_22 hs) (by omega) rfl (fun v17 hv17 htv17 hbv17 => ?_)
      refine dk_bipush (pc' := 37) hE dX5_takePart_35 (by decide) rfl ?_
      refine dk_icmp_lt (tgt := 46) (pc' := 40) hE dX5_takePart_37 (by decide) rfl (fun hc18 => ?_) (fun hc18 => ?_)
      · skip
        refine dk_aload_n (pc' := 47) hE dX5_takePart_46 rfl rfl rfl ?_
        refine gf_5_0 (pc' := 50) (w := 6) hE fl_X5_17 dX5_takePart_47 is_8 rfl rfl ?_
        refine dk_cV (pc' := 53) (as := []) hE lk_X5_73 (ct_X9_advance l G hGd) dX5_takePart_50 rfl is_6 rfl (by decide) (Nat.le_of_ble_eq_true rfl) rfl rfl (fun r20 σ19 hr20 _ => ?_)
        obtain ⟨rfl, hfσ19, hpr20⟩ := hr20
        refine dk_aload_n (pc' := 54) hE dX5_takePart_53 rfl rfl rfl ?_
        refine dk_cV (pc' := 57) (as := []) hE lk_X5_99 (ct_X5_takeName l G hGd) dX5_takePart_54 rfl is_8 rfl (by decide) (Nat.le_of_ble_eq_true rfl) rfl rfl (fun r22 σ21 hr22 _ => ?_)
        obtain ⟨v23, rfl, hfσ21, hpr22⟩ := hr22
        refine dk_if_eq (tgt := 69) (pc' := 60) hE dX5_takePart_57 (by decide) rfl (fun hc24 => ?_) (fun hc24 => ?_)
        · skip
          refine dk_iconst (pc' := 70) hE dX5_takePart_69 (by decide) rfl ?_
          have gi25 : GI σ21 := GI_fr hG (fun k_ j_ h_ => by rw [hfσ21 k_ j_ (fpw16_3236895349 k_ j_ h_), hfσ19 k_ j_ (fpw16_3205328614 k_ j_ h_)])
          exact dk_zret (st := []) hE hR dX5_takePart_70 (by omega) ⟨_, rfl, (fun k_ j_ h_ => by rw [hfσ21 k_ j_ (fun w_ => h_ (w_.elim (fun x0_ => Or.inl (x0_)) (fun y0_ => y0_.elim (fun x1_ => Or.inr (Or.inl (x1_))) (fun y1_ => y1_.elim (fun x2_ => Or.inr (Or.inr (Or.inl (x2_)))) (fun y2_ => y2_.elim (fun x3_ => Or.inr (Or.inr (Or.inr (Or.inl (x3_))))) (fun y3_ => Or.inr (Or.inr (Or.inr (Or.inr (Or.inl (y3_))))))))))), hfσ19 k_ j_ (fun w_ => h_ (Or.inl (w_)))]), ⟨by omega, gi25⟩⟩
        · skip
          refine dk_aload_n (pc' := 61) hE dX5_takePart_60 rfl rfl rfl ?_
          refine dk_bipush (pc' := 63) hE dX5_takePart_61 (by decide) rfl ?_
          refine dk_cV (pc' := 66) (as := [(0, 9)]) hE lk_X5_90 (ct_X5_take l G hGd 9) dX5_takePart_63 rfl is_8 rfl (by decide) (Nat.le_of_ble_eq_true rfl) rfl rfl (fun r27 σ26 hr27 _ => ?_)
          obtain ⟨v28, rfl, hfσ26, hpr27⟩ := hr27
          refine dk_if_ne (tgt := 71) (pc' := 69) hE dX5_takePart_66 (by decide) rfl (fun hc29 => ?_) (fun hc29 => ?_)
          · skip
            refine dk_aload_n (pc' := 72) hE dX5_takePart_71 rfl rfl rfl ?_
            refine gf_5_4 (pc' := 75) hE fl_X5_21 dX5_takePart_72 is_8 rfl (fun v30 hv30 htv30 hbv30 => ?_)
            have hq30 : s = v30 := (show v30 = s by rw [hv30, hfσ26 8 4 (by omega), hfσ21 8 4 (by omega), hfσ19 8 4 (by omega), hv16]).symm
            subst hq30
            clear htv30 hbv30
            refine gf_4_12 (pc' := 78) hE fl_X5_106 dX5_takePart_75 (sc_is (by omega)) rfl (fun v31 hv31 htv31 hbv31 => ?_)
            have hq31 : v10 = v31 := (show v31 = v10 by rw [hv31, hfσ26 s 12 (by omega), hfσ21 s 12 (by omega), hfσ19 s 12 (by omega), hv10]).symm
            subst hq31
            clear htv31 hbv31
            refine dk_istore_n (pc' := 79) (ls' := [(4, 8), (0, b), (0, v3), (0, v10)]) hE dX5_takePart_78 rfl rfl (by decide) rfl ?_
            refine dk_aload_n (pc' := 80) hE dX5_takePart_79 rfl rfl rfl ?_
            refine gf_5_4 (pc' := 83) hE fl_X5_21 dX5_takePart_80 is_8 rfl (fun v32 hv32 htv32 hbv32 => ?_)
            have hq32 : s = v32 := (show v32 = s by rw [hv32, hv30]).symm
            subst hq32
            clear htv32 hbv32
            refine gf_4_4 (pc' := 86) (w := (s + 16)) hE fl_X5_112 dX5_takePart_83 (sc_is (by omega)) rfl rfl ?_
            refine dk_iload_n (pc' := 87) hE dX5_takePart_86 rfl rfl rfl ?_
            refine dk_iload_n (pc' := 88) hE dX5_takePart_87 rfl rfl rfl ?_
            refine pa_63 (pc' := 89) hE dX5_takePart_88 (sc_16 hs) (by omega) (by omega) rfl (fun σ33 eσ33 => ?_)
            refine dk_aload_n (pc' := 90) hE dX5_takePart_89 rfl rfl rfl ?_
            refine gf_5_4 (pc' := 93) hE fl_X5_21 dX5_takePart_90 is_8 rfl (fun v34 hv34 htv34 hbv34 => ?_)
            have hq34 : s = v34 := (show v34 = s by rw [hv34, eσ33, dk_up_n (show ¬ (8 = (s + 16) ∧ 4 = v10) by omega), hv32]).symm
            subst hq34
            clear htv34 hbv34
            refine gf_4_8 (pc' := 96) (w := (s + 20)) hE fl_X5_115 dX5_takePart_93 (sc_is (by omega)) rfl rfl ?_
            refine dk_iload_n (pc' := 97) hE dX5_takePart_96 rfl rfl rfl ?_
            refine dk_iload_n (pc' := 98) hE dX5_takePart_97 rfl rfl rfl ?_
            refine pa_67 (pc' := 99) hE dX5_takePart_98 (sc_20 hs) (by omega) (by omega) trivial rfl (fun σ35 eσ35 => ?_)
            refine dk_aload_n (pc' := 100) hE dX5_takePart_99 rfl rfl rfl ?_
            refine gf_5_4 (pc' := 103) hE fl_X5_21 dX5_takePart_100 is_8 rfl (fun v36 hv36 htv36 hbv36 => ?_)
            have hq36 : s = v36 := (show v36 = s by rw [hv36, eσ35, dk_up_n (show ¬ (8 = (s + 20) ∧ 4 = v10) by omega), hv34]).symm
            subst hq36
            clear htv36 hbv36
            refine gf_4_5 (pc' := 106) (w := (s + 17)) hE fl_X5_119 dX5_takePart_103 (sc_is (by omega)) rfl rfl ?_
            refine dk_iload_n (pc' := 107) hE dX5_takePart_106 rfl rfl rfl ?_
            refine dk_iconst (pc' := 108) hE dX5_takePart_107 (by decide) rfl ?_
            refine pa_64 (pc' := 109) hE dX5_takePart_108 (sc_17 hs) (by omega) (by omega) rfl (fun σ37 eσ37 => ?_)
            have hz38 : σ26 s 12 = σ s 12 := by rw [hfσ26 s 12 (by omega), hfσ21 s 12 (by omega), hfσ19 s 12 (by omega)]
            have gi39 : GI σ26 := GI_fr hG (fun k_ j_ h_ => by rw [hfσ26 k_ j_ (fpw16_1614500924 k_ j_ h_), hfσ21 k_ j_ (fpw16_3236895349 k_ j_ h_), hfσ19 k_ j_ (fpw16_3205328614 k_ j_ h_)])
            have gi40 : GI σ37 := GI_part1 (s := s) gi39 hs (by omega) (by omega) eσ33 eσ35 eσ37
            refine dk_aload_n (pc' := 110) hE dX5_takePart_109 rfl rfl rfl ?_
            refine dk_iconst (pc' := 111) hE dX5_takePart_110 (by decide) rfl ?_
            refine dk_bipush (pc' := 113) hE dX5_takePart_111 (by decide) rfl ?_
            refine dk_cV (pc' := 116) (as := [(0, 0), (0, 19)]) hE lk_X5_76 (ct_X5_isNumber l G hGd 0 19) dX5_takePart_113 rfl is_8 rfl (by decide) (Nat.le_of_ble_eq_true rfl) rfl rfl (fun r42 σ41 hr42 _ => ?_)
            obtain ⟨v43, rfl, hfσ41, hpr42⟩ := hr42
            refine dk_if_ne (tgt := 121) (pc' := 119) hE dX5_takePart_116 (by decide) rfl (fun hc44 => ?_) (fun hc44 => ?_)
            · skip
              refine dk_aload_n (pc' := 122) hE dX5_takePart_121 rfl rfl rfl ?_
              refine gf_5_4 (pc' := 125) hE fl_X5_21 dX5_takePart_122 is_8 rfl (fun v45 hv45 htv45 hbv45 => ?_)
              have hq45 : s = v45 := (show v45 = s by rw [hv45, hfσ41 8 4 (by omega), eσ37, dk_up_n (show ¬ (8 = (s + 17) ∧ 4 = v10) by omega), hv36]).symm
              subst hq45
              clear htv45 hbv45
              refine gf_4_6 (pc' := 128) (w := (s + 18)) hE fl_X5_122 dX5_takePart_125 (sc_is (by omega)) rfl rfl ?_
              refine dk_iload_n (pc' := 129) hE dX5_takePart_128 rfl rfl rfl ?_
              refine dk_aload_n (pc' := 130) hE dX5_takePart_129 rfl rfl rfl ?_
              refine dk_cV (pc' := 133) (as := []) hE lk_X5_80 (ct_X5_takeNumber l G hGd) dX5_takePart_130 rfl is_8 rfl (by decide) (Nat.le_of_ble_eq_true rfl) rfl rfl (fun r47 σ46 hr47 _ => ?_)
              obtain ⟨v48, rfl, hfσ46, hpr47⟩ := hr47
              refine pa_65 (pc' := 134) hE dX5_takePart_133 (sc_18 hs) (by omega) (by omega) rfl (fun σ49 eσ49 => ?_)
              refine dk_aload_n (pc' := 135) hE dX5_takePart_134 rfl rfl rfl ?_
              refine dk_iconst (pc' := 136) hE dX5_takePart_135 (by decide) rfl ?_
              refine dk_bipush (pc' := 138) hE dX5_takePart_136 (by decide) rfl ?_
              refine dk_cV (pc' := 141) (as := [(0, 0), (0, 19)]) hE lk_X5_76 (ct_X5_isNumber l G hGd 0 19) dX5_takePart_138 rfl is_8 rfl (by decide) (Nat.le_of_ble_eq_true rfl) rfl rfl (fun r51 σ50 hr51 _ => ?_)
              obtain ⟨v52, rfl, hfσ50, hpr51⟩ := hr51
              refine dk_if_ne (tgt := 146) (pc' := 144) hE dX5_takePart_141 (by decide) rfl (fun hc53 => ?_) (fun hc53 => ?_)
              · skip
                refine dk_aload_n (pc' := 147) hE dX5_takePart_146 rfl rfl rfl ?_
                refine gf_5_4 (pc' := 150) hE fl_X5_21 dX5_takePart_147 is_8 rfl (fun v54 hv54 htv54 hbv54 => ?_)
                have hq54 : s = v54 := (show v54 = s by rw [hv54, hfσ50 8 4 (by omega), eσ49, dk_up_n (show ¬ (8 = (s + 18) ∧ 4 = v10) by omega), hfσ46 8 4 (by omega), hv45]).symm
                subst hq54
                clear htv54 hbv54
                refine gf_4_7 (pc' := 153) (w := (s + 19)) hE fl_X5_125 dX5_takePart_150 (sc_is (by omega)) rfl rfl ?_
                refine dk_iload_n (pc' := 154) hE dX5_takePart_153 rfl rfl rfl ?_
                refine dk_aload_n (pc' := 155) hE dX5_takePart_154 rfl rfl rfl ?_
                refine dk_cV (pc' := 158) (as := []) hE lk_X5_80 (ct_X5_takeNumber l G hGd) dX5_takePart_155 rfl is_8 rfl (by decide) (Nat.le_of_ble_eq_true rfl) rfl rfl (fun r56 σ55 hr56 _ => ?_)
                obtain ⟨v57, rfl, hfσ55, hpr56⟩ := hr56
                refine pa_66 (pc' := 159) hE dX5_takePart_158 (sc_19 hs) (by omega) (by omega) rfl (fun σ58 eσ58 => ?_)
                refine dk_aload_n (pc' := 160) hE dX5_takePart_159 rfl rfl rfl ?_
                refine dk_iload_n (pc' := 161) hE dX5_takePart_160 rfl rfl rfl ?_
                have gi59 : GI σ58 := GI_fr gi40 (fun k_ j_ h_ => by rw [eσ58, dk_up_n (show ¬ (k_ = (s + 19) ∧ j_ = v10) by omega), hfσ55 k_ j_ (fpw16_3205328614 k_ j_ h_), hfσ50 k_ j_ (fpw16_2838667018 k_ j_ h_), eσ49, dk_up_n (show ¬ (k_ = (s + 18) ∧ j_ = v10) by omega), hfσ46 k_ j_ (fpw16_3205328614 k_ j_ h_), hfσ41 k_ j_ (fpw16_2838667018 k_ j_ h_)])
                have hz60 : σ58 8 4 = σ 8 4 := by rw [eσ58, dk_up_n (show ¬ (8 = (s + 19) ∧ 4 = v10) by omega), hfσ55 8 4 (by omega), hfσ50 8 4 (by omega), eσ49, dk_up_n (show ¬ (8 = (s + 18) ∧ 4 = v10) by omega), hfσ46 8 4 (by omega), hfσ41 8 4 (by omega), eσ37, dk_up_n (show ¬ (8 = (s + 17) ∧ 4 = v10) by omega), eσ35, dk_up_n (show ¬ (8 = (s + 20) ∧ 4 = v10) by omega), eσ33, dk_up_n (show ¬ (8 = (s + 16) ∧ 4 = v10) by omega), hfσ26 8 4 (by omega), hfσ21 8 4 (by omega), hfσ19 8 4 (by omega)]
                refine dk_cV (pc' := 164) (as := [(0, v10)]) hE lk_X5_128 (ct_X5_takeWords l G hGd v10 s) dX5_takePart_161 rfl is_8 rfl (by decide) (Nat.le_of_ble_eq_true rfl) ⟨rfl, gi59, (by omega), (by omega), (by omega)⟩ rfl (fun r62 σ61 hr62 _ => ?_)
                obtain ⟨v63, rfl, hfσ61, hpr62⟩ := hr62
                obtain ⟨hpr62, hgr62⟩ := hpr62
                refine dk_if_ne (tgt := 169) (pc' := 167) hE dX5_takePart_164 (by decide) rfl (fun hc64 => ?_) (fun hc64 => ?_)
                · skip
                  refine dk_aload_n (pc' := 170) hE dX5_takePart_169 rfl rfl rfl ?_
                  refine gf_5_4 (pc' := 173) hE fl_X5_21 dX5_takePart_170 is_8 rfl (fun v65 hv65 htv65 hbv65 => ?_)
                  have hq65 : s = v65 := (show v65 = s by rw [hv65, hfσ61 8 4 (by omega), eσ58, dk_up_n (show ¬ (8 = (s + 19) ∧ 4 = v10) by omega), hfσ55 8 4 (by omega), hv54]).symm
                  subst hq65
                  clear htv65 hbv65
                  refine dk_dup (pc' := 174) hE dX5_takePart_173 (show (4 : Nat) ≠ 3 by decide) rfl ?_
                  refine gf_4_12 (pc' := 177) hE fl_X5_106 dX5_takePart_174 (sc_is (by omega)) rfl (fun v66 hv66 htv66 hbv66 => ?_)
                  have hq66 : v10 = v66 := (show v66 = v10 by rw [hv66, hfσ61 s 12 (by omega), eσ58, dk_up_n (show ¬ (s = (s + 19) ∧ 12 = v10) by omega), hfσ55 s 12 (by omega), hfσ50 s 12 (by omega), eσ49, dk_up_n (show ¬ (s = (s + 18) ∧ 12 = v10) by omega), hfσ46 s 12 (by omega), hfσ41 s 12 (by omega), eσ37, dk_up_n (show ¬ (s = (s + 17) ∧ 12 = v10) by omega), eσ35, dk_up_n (show ¬ (s = (s + 20) ∧ 12 = v10) by omega), eσ33, dk_up_n (show ¬ (s = (s + 16) ∧ 12 = v10) by omega), hv31]).symm
                  subst hq66
                  clear htv66 hbv66
                  refine dk_iconst (pc' := 178) hE dX5_takePart_177 (by decide) rfl ?_
                  obtain ⟨v67, hv67⟩ : ∃ z : Int, z = v10 + 1 := ⟨_, rfl⟩
                  refine dk_iadd (pc' := 179) hE dX5_takePart_178 hv67.symm (by omega) rfl ?_
                  refine pf_4_12 (pc' := 182) hE fl_X5_106 dX5_takePart_179 (sc_is (by omega)) (by omega) rfl (fun σ68 eσ68 => ?_)
                  refine dk_aload_n (pc' := 183) hE dX5_takePart_182 rfl rfl rfl ?_
                  refine gf_5_4 (pc' := 186) hE fl_X5_21 dX5_takePart_183 is_8 rfl (fun v69 hv69 htv69 hbv69 => ?_)
                  have hq69 : s = v69 := (show v69 = s by rw [hv69, eσ68, dk_up_n (show ¬ (8 = s ∧ 4 = 12) by omega), hv65]).symm
                  subst hq69
                  clear htv69 hbv69
                  refine gf_4_10 (pc' := 189) (w := (s + 22)) hE fl_X5_109 dX5_takePart_186 (sc_is (by omega)) rfl rfl ?_
                  refine dk_iload_n (pc' := 190) hE dX5_takePart_189 rfl rfl rfl ?_
                  refine dk_dup2 (pc' := 191) hE dX5_takePart_190 (show (0 : Nat) ≠ 3 by decide) (show (4 : Nat) ≠ 3 by decide) rfl ?_
                  refine ga_69 (pc' := 192) hE dX5_takePart_191 (sc_22 hs) (by omega) rfl (fun v70 hv70 htv70 hbv70 => ?_)
                  have hq70 : v17 = v70 := (show v70 = v17 by rw [hv70, eσ68, dk_up_n (show ¬ ((s + 22) = s ∧ v3 = 12) by omega), hfσ61 (s + 22) v3 (by omega), eσ58, dk_up_n (show ¬ ((s + 22) = (s + 19) ∧ v3 = v10) by omega), hfσ55 (s + 22) v3 (by omega), hfσ50 (s + 22) v3 (by omega), eσ49, dk_up_n (show ¬ ((s + 22) = (s + 18) ∧ v3 = v10) by omega), hfσ46 (s + 22) v3 (by omega), hfσ41 (s + 22) v3 (by omega), eσ37, dk_up_n (show ¬ ((s + 22) = (s + 17) ∧ v3 = v10) by omega), eσ35, dk_up_n (show ¬ ((s + 22) = (s + 20) ∧ v3 = v10) by omega), eσ33, dk_up_n (show ¬ ((s + 22) = (s + 16) ∧ v3 = v10) by omega), hfσ26 (s + 22) v3 (by omega), hfσ21 (s + 22) v3 (by omega), hfσ19 (s + 22) v3 (by omega), hv17]).symm
                  subst hq70
                  clear htv70 hbv70
                  refine dk_iconst (pc' := 193) hE dX5_takePart_192 (by decide) rfl ?_
                  obtain ⟨v71, hv71⟩ : ∃ z : Int, z = v17 + 1 := ⟨_, rfl⟩
                  refine dk_iadd (pc' := 194) hE dX5_takePart_193 hv71.symm (by omega) rfl ?_
                  refine pa_69 (pc' := 195) hE dX5_takePart_194 (sc_22 hs) (by omega) (by omega) rfl (fun σ72 eσ72 => ?_)
                  have hz73 : σ61 s 11 = σ s 11 := by rw [hfσ61 s 11 (by omega), eσ58, dk_up_n (show ¬ (s = (s + 19) ∧ 11 = v10) by omega), hfσ55 s 11 (by omega), hfσ50 s 11 (by omega), eσ49, dk_up_n (show ¬ (s = (s + 18) ∧ 11 = v10) by omega), hfσ46 s 11 (by omega), hfσ41 s 11 (by omega), eσ37, dk_up_n (show ¬ (s = (s + 17) ∧ 11 = v10) by omega), eσ35, dk_up_n (show ¬ (s = (s + 20) ∧ 11 = v10) by omega), eσ33, dk_up_n (show ¬ (s = (s + 16) ∧ 11 = v10) by omega), hfσ26 s 11 (by omega), hfσ21 s 11 (by omega), hfσ19 s 11 (by omega)]
                  have hz74 : σ61 s 12 = σ s 12 := by rw [hfσ61 s 12 (by omega), eσ58, dk_up_n (show ¬ (s = (s + 19) ∧ 12 = v10) by omega), hfσ55 s 12 (by omega), hfσ50 s 12 (by omega), eσ49, dk_up_n (show ¬ (s = (s + 18) ∧ 12 = v10) by omega), hfσ46 s 12 (by omega), hfσ41 s 12 (by omega), eσ37, dk_up_n (show ¬ (s = (s + 17) ∧ 12 = v10) by omega), eσ35, dk_up_n (show ¬ (s = (s + 20) ∧ 12 = v10) by omega), eσ33, dk_up_n (show ¬ (s = (s + 16) ∧ 12 = v10) by omega), hfσ26 s 12 (by omega), hfσ21 s 12 (by omega), hfσ19 s 12 (by omega)]
                  have hz75 : σ61 (s + 16) v10 = v3 := by rw [hfσ61 (s + 16) v10 (by omega), eσ58, dk_up_n (show ¬ ((s + 16) = (s + 19) ∧ v10 = v10) by omega), hfσ55 (s + 16) v10 (by omega), hfσ50 (s + 16) v10 (by omega), eσ49, dk_up_n (show ¬ ((s + 16) = (s + 18) ∧ v10 = v10) by omega), hfσ46 (s + 16) v10 (by omega), hfσ41 (s + 16) v10 (by omega), eσ37, dk_up_n (show ¬ ((s + 16) = (s + 17) ∧ v10 = v10) by omega), eσ35, dk_up_n (show ¬ ((s + 16) = (s + 20) ∧ v10 = v10) by omega), eσ33, dk_up_s]
                  have hz76 : σ61 (s + 22) v3 = σ (s + 22) v3 := by rw [hfσ61 (s + 22) v3 (by omega), eσ58, dk_up_n (show ¬ ((s + 22) = (s + 19) ∧ v3 = v10) by omega), hfσ55 (s + 22) v3 (by omega), hfσ50 (s + 22) v3 (by omega), eσ49, dk_up_n (show ¬ ((s + 22) = (s + 18) ∧ v3 = v10) by omega), hfσ46 (s + 22) v3 (by omega), hfσ41 (s + 22) v3 (by omega), eσ37, dk_up_n (show ¬ ((s + 22) = (s + 17) ∧ v3 = v10) by omega), eσ35, dk_up_n (show ¬ ((s + 22) = (s + 20) ∧ v3 = v10) by omega), eσ33, dk_up_n (show ¬ ((s + 22) = (s + 16) ∧ v3 = v10) by omega), hfσ26 (s + 22) v3 (by omega), hfσ21 (s + 22) v3 (by omega), hfσ19 (s + 22) v3 (by omega)]
                  have gi77 : GI σ72 := GI_part2 (s := s) (p := v10) hgr62 hs (by omega) (by omega) (by omega) (by omega) (by omega) rfl (by omega) (by omega) (by omega) eσ68 eσ72
                  refine dk_aload_n (pc' := 196) hE dX5_takePart_195 rfl rfl rfl ?_
                  refine dk_bipush (pc' := 198) hE dX5_takePart_196 (by decide) rfl ?_
                  refine dk_cV (pc' := 201) (as := [(0, 59)]) hE lk_X5_90 (ct_X5_take l G hGd 59) dX5_takePart_198 rfl is_8 rfl (by decide) (Nat.le_of_ble_eq_true rfl) rfl rfl (fun r79 σ78 hr79 _ => ?_)
                  obtain ⟨v80, rfl, hfσ78, hpr79⟩ := hr79
                  have hw81 : 95 ≤ (s + 22) ∧ (s + 22) ≤ 140 := by omega
                  have hw82 : 95 ≤ s ∧ s ≤ 140 := by omega
                  have hw83 : 95 ≤ (s + 19) ∧ (s + 19) ≤ 140 := by omega
                  have hw84 : 95 ≤ (s + 18) ∧ (s + 18) ≤ 140 := by omega
                  have hw85 : 95 ≤ (s + 17) ∧ (s + 17) ≤ 140 := by omega
                  have hw86 : 95 ≤ (s + 20) ∧ (s + 20) ≤ 140 := by omega
                  have hw87 : 95 ≤ (s + 16) ∧ (s + 16) ≤ 140 := by omega
                  have gi88 : GI σ78 := GI_fr gi77 (fun k_ j_ h_ => by rw [hfσ78 k_ j_ (fpw16_1614500924 k_ j_ h_)])
                  exact dk_zret (st := []) hE hR dX5_takePart_201 (by omega) ⟨_, rfl, (fun k_ j_ h_ => by rw [hfσ78 k_ j_ (fun w_ => h_ (w_.elim (fun x0_ => Or.inl (x0_)) (fun y0_ => y0_.elim (fun x1_ => Or.inr (Or.inr (Or.inl (x1_)))) (fun y1_ => Or.inr (Or.inr (Or.inr (Or.inl (y1_)))))))), eσ72, dk_up_n (show ¬ (k_ = (s + 22) ∧ j_ = v3) from fun q_ => h_ (Or.inr (Or.inr (Or.inr (Or.inr (Or.inr (Or.inr (dk_wr q_.1 hw81)))))))), eσ68, dk_up_n (show ¬ (k_ = s ∧ j_ = 12) from fun q_ => h_ (Or.inr (Or.inr (Or.inr (Or.inr (Or.inr (Or.inr (dk_wr q_.1 hw82)))))))), hfσ61 k_ j_ (fun w_ => h_ (w_.elim (fun x0_ => Or.inr (Or.inr (Or.inr (Or.inr (Or.inr (Or.inr (dk_wrr (lo := 95) (hi := 140) x0_ (by decide) (by decide)))))))) (fun y0_ => y0_.elim (fun x1_ => Or.inr (Or.inr (Or.inr (Or.inr (Or.inr (Or.inr (dk_wrr (lo := 95) (hi := 140) x1_ (by decide) (by decide)))))))) (fun y1_ => y1_.elim (fun x2_ => Or.inr (Or.inr (Or.inr (Or.inr (Or.inr (Or.inr (dk_wr (lo := 95) (hi := 140) x2_ (by decide)))))))) (fun y2_ => y2_.elim (fun x3_ => Or.inr (Or.inr (Or.inr (Or.inr (Or.inr (Or.inr (dk_wr (lo := 95) (hi := 140) x3_ (by decide)))))))) (fun y3_ => y3_.elim (fun x4_ => Or.inl (x4_)) (fun y4_ => y4_.elim (fun x5_ => Or.inr (Or.inr (Or.inl (x5_)))) (fun y5_ => Or.inr (Or.inr (Or.inr (Or.inl (y5_)))))))))))), eσ58, dk_up_n (show ¬ (k_ = (s + 19) ∧ j_ = v10) from fun q_ => h_ (Or.inr (Or.inr (Or.inr (Or.inr (Or.inr (Or.inr (dk_wr q_.1 hw83)))))))), hfσ55 k_ j_ (fun w_ => h_ (Or.inl (w_))), hfσ50 k_ j_ (fun w_ => h_ (w_.elim (fun x0_ => Or.inr (Or.inr (Or.inl (x0_)))) (fun y0_ => Or.inr (Or.inr (Or.inr (Or.inl (y0_))))))), eσ49, dk_up_n (show ¬ (k_ = (s + 18) ∧ j_ = v10) from fun q_ => h_ (Or.inr (Or.inr (Or.inr (Or.inr (Or.inr (Or.inr (dk_wr q_.1 hw84)))))))), hfσ46 k_ j_ (fun w_ => h_ (Or.inl (w_))), hfσ41 k_ j_ (fun w_ => h_ (w_.elim (fun x0_ => Or.inr (Or.inr (Or.inl (x0_)))) (fun y0_ => Or.inr (Or.inr (Or.inr (Or.inl (y0_))))))), eσ37, dk_up_n (show ¬ (k_ = (s + 17) ∧ j_ = v10) from fun q_ => h_ (Or.inr (Or.inr (Or.inr (Or.inr (Or.inr (Or.inr (dk_wr q_.1 hw85)))))))), eσ35, dk_up_n (show ¬ (k_ = (s + 20) ∧ j_ = v10) from fun q_ => h_ (Or.inr (Or.inr (Or.inr (Or.inr (Or.inr (Or.inr (dk_wr q_.1 hw86)))))))), eσ33, dk_up_n (show ¬ (k_ = (s + 16) ∧ j_ = v10) from fun q_ => h_ (Or.inr (Or.inr (Or.inr (Or.inr (Or.inr (Or.inr (dk_wr q_.1 hw87)))))))), hfσ26 k_ j_ (fun w_ => h_ (w_.elim (fun x0_ => Or.inl (x0_)) (fun y0_ => y0_.elim (fun x1_ => Or.inr (Or.inr (Or.inl (x1_)))) (fun y1_ => Or.inr (Or.inr (Or.inr (Or.inl (y1_)))))))), hfσ21 k_ j_ (fun w_ => h_ (w_.elim (fun x0_ => Or.inl (x0_)) (fun y0_ => y0_.elim (fun x1_ => Or.inr (Or.inl (x1_))) (fun y1_ => y1_.elim (fun x2_ => Or.inr (Or.inr (Or.inl (x2_)))) (fun y2_ => y2_.elim (fun x3_ => Or.inr (Or.inr (Or.inr (Or.inl (x3_))))) (fun y3_ => Or.inr (Or.inr (Or.inr (Or.inr (Or.inl (y3_))))))))))), hfσ19 k_ j_ (fun w_ => h_ (Or.inl (w_)))]), ⟨by omega, gi88⟩⟩
                · skip
                  refine dk_iconst (pc' := 168) hE dX5_takePart_167 (by decide) rfl ?_
                  have hw89 : 95 ≤ (s + 19) ∧ (s + 19) ≤ 140 := by omega
                  have hw90 : 95 ≤ (s + 18) ∧ (s + 18) ≤ 140 := by omega
                  have hw91 : 95 ≤ (s + 17) ∧ (s + 17) ≤ 140 := by omega
                  have hw92 : 95 ≤ (s + 20) ∧ (s + 20) ≤ 140 := by omega
                  have hw93 : 95 ≤ (s + 16) ∧ (s + 16) ≤ 140 := by omega
                  exact dk_zret (st := []) hE hR dX5_takePart_168 (by omega) ⟨_, rfl, (fun k_ j_ h_ => by rw [hfσ61 k_ j_ (fun w_ => h_ (w_.elim (fun x0_ => Or.inr (Or.inr (Or.inr (Or.inr (Or.inr (Or.inr (dk_wrr (lo := 95) (hi := 140) x0_ (by decide) (by decide)))))))) (fun y0_ => y0_.elim (fun x1_ => Or.inr (Or.inr (Or.inr (Or.inr (Or.inr (Or.inr (dk_wrr (lo := 95) (hi := 140) x1_ (by decide) (by decide)))))))) (fun y1_ => y1_.elim (fun x2_ => Or.inr (Or.inr (Or.inr (Or.inr (Or.inr (Or.inr (dk_wr (lo := 95) (hi := 140) x2_ (by decide)))))))) (fun y2_ => y2_.elim (fun x3_ => Or.inr (Or.inr (Or.inr (Or.inr (Or.inr (Or.inr (dk_wr (lo := 95) (hi := 140) x3_ (by decide)))))))) (fun y3_ => y3_.elim (fun x4_ => Or.inl (x4_)) (fun y4_ => y4_.elim (fun x5_ => Or.inr (Or.inr (Or.inl (x5_)))) (fun y5_ => Or.inr (Or.inr (Or.inr (Or.inl (y5_)))))))))))), eσ58, dk_up_n (show ¬ (k_ = (s + 19) ∧ j_ = v10) from fun q_ => h_ (Or.inr (Or.inr (Or.inr (Or.inr (Or.inr (Or.inr (dk_wr q_.1 hw89)))))))), hfσ55 k_ j_ (fun w_ => h_ (Or.inl (w_))), hfσ50 k_ j_ (fun w_ => h_ (w_.elim (fun x0_ => Or.inr (Or.inr (Or.inl (x0_)))) (fun y0_ => Or.inr (Or.inr (Or.inr (Or.inl (y0_))))))), eσ49, dk_up_n (show ¬ (k_ = (s + 18) ∧ j_ = v10) from fun q_ => h_ (Or.inr (Or.inr (Or.inr (Or.inr (Or.inr (Or.inr (dk_wr q_.1 hw90)))))))), hfσ46 k_ j_ (fun w_ => h_ (Or.inl (w_))), hfσ41 k_ j_ (fun w_ => h_ (w_.elim (fun x0_ => Or.inr (Or.inr (Or.inl (x0_)))) (fun y0_ => Or.inr (Or.inr (Or.inr (Or.inl (y0_))))))), eσ37, dk_up_n (show ¬ (k_ = (s + 17) ∧ j_ = v10) from fun q_ => h_ (Or.inr (Or.inr (Or.inr (Or.inr (Or.inr (Or.inr (dk_wr q_.1 hw91)))))))), eσ35, dk_up_n (show ¬ (k_ = (s + 20) ∧ j_ = v10) from fun q_ => h_ (Or.inr (Or.inr (Or.inr (Or.inr (Or.inr (Or.inr (dk_wr q_.1 hw92)))))))), eσ33, dk_up_n (show ¬ (k_ = (s + 16) ∧ j_ = v10) from fun q_ => h_ (Or.inr (Or.inr (Or.inr (Or.inr (Or.inr (Or.inr (dk_wr q_.1 hw93)))))))), hfσ26 k_ j_ (fun w_ => h_ (w_.elim (fun x0_ => Or.inl (x0_)) (fun y0_ => y0_.elim (fun x1_ => Or.inr (Or.inr (Or.inl (x1_)))) (fun y1_ => Or.inr (Or.inr (Or.inr (Or.inl (y1_)))))))), hfσ21 k_ j_ (fun w_ => h_ (w_.elim (fun x0_ => Or.inl (x0_)) (fun y0_ => y0_.elim (fun x1_ => Or.inr (Or.inl (x1_))) (fun y1_ => y1_.elim (fun x2_ => Or.inr (Or.inr (Or.inl (x2_)))) (fun y2_ => y2_.elim (fun x3_ => Or.inr (Or.inr (Or.inr (Or.inl (x3_))))) (fun y3_ => Or.inr (Or.inr (Or.inr (Or.inr (Or.inl (y3_))))))))))), hfσ19 k_ j_ (fun w_ => h_ (Or.inl (w_)))]), ⟨by omega, hgr62⟩⟩
              · skip
                refine dk_iconst (pc' := 145) hE dX5_takePart_144 (by decide) rfl ?_
                have hw94 : 95 ≤ (s + 18) ∧ (s + 18) ≤ 140 := by omega
                have hw95 : 95 ≤ (s + 17) ∧ (s + 17) ≤ 140 := by omega
                have hw96 : 95 ≤ (s + 20) ∧ (s + 20) ≤ 140 := by omega
                have hw97 : 95 ≤ (s + 16) ∧ (s + 16) ≤ 140 := by omega
                have gi98 : GI σ50 := GI_fr gi40 (fun k_ j_ h_ => by rw [hfσ50 k_ j_ (fpw16_2838667018 k_ j_ h_), eσ49, dk_up_n (show ¬ (k_ = (s + 18) ∧ j_ = v10) by omega), hfσ46 k_ j_ (fpw16_3205328614 k_ j_ h_), hfσ41 k_ j_ (fpw16_2838667018 k_ j_ h_)])
                exact dk_zret (st := []) hE hR dX5_takePart_145 (by omega) ⟨_, rfl, (fun k_ j_ h_ => by rw [hfσ50 k_ j_ (fun w_ => h_ (w_.elim (fun x0_ => Or.inr (Or.inr (Or.inl (x0_)))) (fun y0_ => Or.inr (Or.inr (Or.inr (Or.inl (y0_))))))), eσ49, dk_up_n (show ¬ (k_ = (s + 18) ∧ j_ = v10) from fun q_ => h_ (Or.inr (Or.inr (Or.inr (Or.inr (Or.inr (Or.inr (dk_wr q_.1 hw94)))))))), hfσ46 k_ j_ (fun w_ => h_ (Or.inl (w_))), hfσ41 k_ j_ (fun w_ => h_ (w_.elim (fun x0_ => Or.inr (Or.inr (Or.inl (x0_)))) (fun y0_ => Or.inr (Or.inr (Or.inr (Or.inl (y0_))))))), eσ37, dk_up_n (show ¬ (k_ = (s + 17) ∧ j_ = v10) from fun q_ => h_ (Or.inr (Or.inr (Or.inr (Or.inr (Or.inr (Or.inr (dk_wr q_.1 hw95)))))))), eσ35, dk_up_n (show ¬ (k_ = (s + 20) ∧ j_ = v10) from fun q_ => h_ (Or.inr (Or.inr (Or.inr (Or.inr (Or.inr (Or.inr (dk_wr q_.1 hw96)))))))), eσ33, dk_up_n (show ¬ (k_ = (s + 16) ∧ j_ = v10) from fun q_ => h_ (Or.inr (Or.inr (Or.inr (Or.inr (Or.inr (Or.inr (dk_wr q_.1 hw97)))))))), hfσ26 k_ j_ (fun w_ => h_ (w_.elim (fun x0_ => Or.inl (x0_)) (fun y0_ => y0_.elim (fun x1_ => Or.inr (Or.inr (Or.inl (x1_)))) (fun y1_ => Or.inr (Or.inr (Or.inr (Or.inl (y1_)))))))), hfσ21 k_ j_ (fun w_ => h_ (w_.elim (fun x0_ => Or.inl (x0_)) (fun y0_ => y0_.elim (fun x1_ => Or.inr (Or.inl (x1_))) (fun y1_ => y1_.elim (fun x2_ => Or.inr (Or.inr (Or.inl (x2_)))) (fun y2_ => y2_.elim (fun x3_ => Or.inr (Or.inr (Or.inr (Or.inl (x3_))))) (fun y3_ => Or.inr (Or.inr (Or.inr (Or.inr (Or.inl (y3_))))))))))), hfσ19 k_ j_ (fun w_ => h_ (Or.inl (w_)))]), ⟨by omega, gi98⟩⟩
            · skip
              refine dk_iconst (pc' := 120) hE dX5_takePart_119 (by decide) rfl ?_
              have hw99 : 95 ≤ (s + 17) ∧ (s + 17) ≤ 140 := by omega
              have hw100 : 95 ≤ (s + 20) ∧ (s + 20) ≤ 140 := by omega
              have hw101 : 95 ≤ (s + 16) ∧ (s + 16) ≤ 140 := by omega
              have gi102 : GI σ41 := GI_fr gi40 (fun k_ j_ h_ => by rw [hfσ41 k_ j_ (fpw16_2838667018 k_ j_ h_)])
              exact dk_zret (st := []) hE hR dX5_takePart_120 (by omega) ⟨_, rfl, (fun k_ j_ h_ => by rw [hfσ41 k_ j_ (fun w_ => h_ (w_.elim (fun x0_ => Or.inr (Or.inr (Or.inl (x0_)))) (fun y0_ => Or.inr (Or.inr (Or.inr (Or.inl (y0_))))))), eσ37, dk_up_n (show ¬ (k_ = (s + 17) ∧ j_ = v10) from fun q_ => h_ (Or.inr (Or.inr (Or.inr (Or.inr (Or.inr (Or.inr (dk_wr q_.1 hw99)))))))), eσ35, dk_up_n (show ¬ (k_ = (s + 20) ∧ j_ = v10) from fun q_ => h_ (Or.inr (Or.inr (Or.inr (Or.inr (Or.inr (Or.inr (dk_wr q_.1 hw100)))))))), eσ33, dk_up_n (show ¬ (k_ = (s + 16) ∧ j_ = v10) from fun q_ => h_ (Or.inr (Or.inr (Or.inr (Or.inr (Or.inr (Or.inr (dk_wr q_.1 hw101)))))))), hfσ26 k_ j_ (fun w_ => h_ (w_.elim (fun x0_ => Or.inl (x0_)) (fun y0_ => y0_.elim (fun x1_ => Or.inr (Or.inr (Or.inl (x1_)))) (fun y1_ => Or.inr (Or.inr (Or.inr (Or.inl (y1_)))))))), hfσ21 k_ j_ (fun w_ => h_ (w_.elim (fun x0_ => Or.inl (x0_)) (fun y0_ => y0_.elim (fun x1_ => Or.inr (Or.inl (x1_))) (fun y1_ => y1_.elim (fun x2_ => Or.inr (Or.inr (Or.inl (x2_)))) (fun y2_ => y2_.elim (fun x3_ => Or.inr (Or.inr (Or.inr (Or.inl (x3_))))) (fun y3_ => Or.inr (Or.inr (Or.inr (Or.inr (Or.inl (y3_))))))))))), hfσ19 k_ j_ (fun w_ => h_ (Or.inl (w_)))]), ⟨by omega, gi102⟩⟩
          · skip
            refine dk_iconst (pc' := 70) hE dX5_takePart_69 (by decide) rfl ?_
            have gi103 : GI σ26 := GI_fr hG (fun k_ j_ h_ => by rw [hfσ26 k_ j_ (fpw16_1614500924 k_ j_ h_), hfσ21 k_ j_ (fpw16_3236895349 k_ j_ h_), hfσ19 k_ j_ (fpw16_3205328614 k_ j_ h_)])
            exact dk_zret (st := []) hE hR dX5_takePart_70 (by omega) ⟨_, rfl, (fun k_ j_ h_ => by rw [hfσ26 k_ j_ (fun w_ => h_ (w_.elim (fun x0_ => Or.inl (x0_)) (fun y0_ => y0_.elim (fun x1_ => Or.inr (Or.inr (Or.inl (x1_)))) (fun y1_ => Or.inr (Or.inr (Or.inr (Or.inl (y1_)))))))), hfσ21 k_ j_ (fun w_ => h_ (w_.elim (fun x0_ => Or.inl (x0_)) (fun y0_ => y0_.elim (fun x1_ => Or.inr (Or.inl (x1_))) (fun y1_ => y1_.elim (fun x2_ => Or.inr (Or.inr (Or.inl (x2_)))) (fun y2_ => y2_.elim (fun x3_ => Or.inr (Or.inr (Or.inr (Or.inl (x3_))))) (fun y3_ => Or.inr (Or.inr (Or.inr (Or.inr (Or.inl (y3_))))))))))), hfσ19 k_ j_ (fun w_ => h_ (Or.inl (w_)))]), ⟨by omega, gi103⟩⟩
      · skip
        refine dk_aload_n (pc' := 41) hE dX5_takePart_40 rfl rfl rfl ?_
        refine dk_iconst (pc' := 42) hE dX5_takePart_41 (by decide) rfl ?_
        refine dk_cV (pc' := 45) (as := [(0, 2)]) hE lk_X5_69 (ct_X5_refuse l G hGd 2) dX5_takePart_42 rfl is_8 rfl (by decide) (Nat.le_of_ble_eq_true rfl) rfl rfl (fun r105 σ104 hr105 _ => ?_)
        obtain ⟨v106, rfl, hfσ104, hpr105⟩ := hr105
        have gi107 : GI σ104 := GI_fr hG (fun k_ j_ h_ => by rw [hfσ104 k_ j_ (fpw16_2838667018 k_ j_ h_)])
        exact dk_zret (st := []) hE hR dX5_takePart_45 (by omega) ⟨_, rfl, (fun k_ j_ h_ => by rw [hfσ104 k_ j_ (fun w_ => h_ (w_.elim (fun x0_ => Or.inr (Or.inr (Or.inl (x0_)))) (fun y0_ => Or.inr (Or.inr (Or.inr (Or.inl (y0_)))))))]), ⟨by omega, gi107⟩⟩
set_option maxHeartbeats 4000000 in
set_option maxRecDepth 20000 in
theorem ct_X5_takeLine (l : Launch) (G : dkG) (hGd : dk_Gd G) (s : Int) : dk_Ct l G dk_Ty yX5_takeLine cX5_takeLine 1 (some .boolean) 8 190 190 (fun av σ => av = [(4, 8)] ∧ (GI σ) ∧ (dk_sc s) ∧ (s = σ 8 4)) (fun _ σ r_ σ' => ∃ z : Int, r_ = some (0, z) ∧ (∀ k_ j_ : Int, ¬ (k_ = 6 ∨ (k_ = 8 ∧ j_ = 2) ∨ (k_ = 8 ∧ j_ = 5) ∨ (k_ = 8 ∧ j_ = 6) ∨ k_ = 9 ∨ (k_ = 8 ∧ j_ = 3) ∨ (95 ≤ k_ ∧ k_ ≤ 140)) → σ' k_ j_ = σ k_ j_) ∧ ((0 ≤ z ∧ z ≤ 1) ∧ GI σ')) := by
  refine dk_enter hGd (by decide) (fun av σ hpre hok => ?_)
  obtain ⟨rfl, hG, hs, h84⟩ := hpre
  refine ⟨Nat.le_of_ble_eq_true rfl, fun E hE hR _ => ?_⟩
  show dk_PJ E 0 [(4, 8)] [] 190 σ
  refine dk_aload_n (pc' := 1) hE dX5_takeLine_0 rfl rfl rfl ?_
  refine gf_5_0 (pc' := 4) (w := 6) hE fl_X5_17 dX5_takeLine_1 is_8 rfl rfl ?_
  refine gf_9_3 (pc' := 7) hE fl_X5_49 dX5_takeLine_4 is_6 rfl (fun v1 hv1 htv1 hbv1 => ?_)
  refine dk_table (tgs := [40, 62, 45, 50, 56]) (td := 62) hE dX5_takeLine_7 (by decide) (by decide) (by decide) (fun hc2 => ?_) (fun i3 t4 q5 hc2 => ?_)
  · skip
    refine dk_aload_n (pc' := 63) hE dX5_takeLine_62 rfl rfl rfl ?_
    refine dk_iconst (pc' := 64) hE dX5_takeLine_63 (by decide) rfl ?_
    refine dk_cV (pc' := 67) (as := [(0, 2)]) hE lk_X5_69 (ct_X5_refuse l G hGd 2) dX5_takeLine_64 rfl is_8 rfl (by decide) (Nat.le_of_ble_eq_true rfl) rfl rfl (fun r7 σ6 hr7 _ => ?_)
    obtain ⟨v8, rfl, hfσ6, hpr7⟩ := hr7
    have gi9 : GI σ6 := GI_fr hG (fun k_ j_ h_ => by rw [hfσ6 k_ j_ (fpw16_2838667018 k_ j_ h_)])
    exact dk_zret (st := []) hE hR dX5_takeLine_67 (by omega) ⟨_, rfl, (fun k_ j_ h_ => by rw [hfσ6 k_ j_ (fun w_ => h_ (w_.elim (fun x0_ => Or.inr (Or.inr (Or.inl (x0_)))) (fun y0_ => Or.inr (Or.inr (Or.inr (Or.inl (y0_)))))))]), ⟨by omega, gi9⟩⟩
  · have i3l : i3 < 5 := (List.getElem?_eq_some_iff.mp q5).1
    rcases (show i3 = 0 ∨ i3 = 1 ∨ i3 = 2 ∨ i3 = 3 ∨ i3 = 4 by omega) with rfl | rfl | rfl | rfl | rfl
    · cases q5
      refine dk_aload_n (pc' := 41) hE dX5_takeLine_40 rfl rfl rfl ?_
      refine dk_cV (pc' := 44) (as := []) hE lk_X5_59 (ct_X5_takeFloor l G hGd s) dX5_takeLine_41 rfl is_8 rfl (by decide) (Nat.le_of_ble_eq_true rfl) ⟨rfl, hG, (by omega), (by omega)⟩ rfl (fun r11 σ10 hr11 _ => ?_)
      obtain ⟨v12, rfl, hfσ10, hpr11⟩ := hr11
      obtain ⟨hpr11, hgr11⟩ := hpr11
      exact dk_zret (st := []) hE hR dX5_takeLine_44 (by omega) ⟨_, rfl, (fun k_ j_ h_ => by rw [hfσ10 k_ j_ (fun w_ => h_ (w_.elim (fun x0_ => Or.inl (x0_)) (fun y0_ => y0_.elim (fun x1_ => Or.inr (Or.inl (x1_))) (fun y1_ => y1_.elim (fun x2_ => Or.inr (Or.inr (Or.inl (x2_)))) (fun y2_ => y2_.elim (fun x3_ => Or.inr (Or.inr (Or.inr (Or.inl (x3_))))) (fun y3_ => y3_.elim (fun x4_ => Or.inr (Or.inr (Or.inr (Or.inr (Or.inl (x4_)))))) (fun y4_ => y4_.elim (fun x5_ => Or.inr (Or.inr (Or.inr (Or.inr (Or.inr (Or.inl (x5_))))))) (fun y5_ => Or.inr (Or.inr (Or.inr (Or.inr (Or.inr (Or.inr (y5_))))))))))))))]), ⟨by omega, hgr11⟩⟩
    · cases q5
      refine dk_aload_n (pc' := 63) hE dX5_takeLine_62 rfl rfl rfl ?_
      refine dk_iconst (pc' := 64) hE dX5_takeLine_63 (by decide) rfl ?_
      refine dk_cV (pc' := 67) (as := [(0, 2)]) hE lk_X5_69 (ct_X5_refuse l G hGd 2) dX5_takeLine_64 rfl is_8 rfl (by decide) (Nat.le_of_ble_eq_true rfl) rfl rfl (fun r14 σ13 hr14 _ => ?_)
      obtain ⟨v15, rfl, hfσ13, hpr14⟩ := hr14
      have gi16 : GI σ13 := GI_fr hG (fun k_ j_ h_ => by rw [hfσ13 k_ j_ (fpw16_2838667018 k_ j_ h_)])
      exact dk_zret (st := []) hE hR dX5_takeLine_67 (by omega) ⟨_, rfl, (fun k_ j_ h_ => by rw [hfσ13 k_ j_ (fun w_ => h_ (w_.elim (fun x0_ => Or.inr (Or.inr (Or.inl (x0_)))) (fun y0_ => Or.inr (Or.inr (Or.inr (Or.inl (y0_)))))))]), ⟨by omega, gi16⟩⟩
    · cases q5
      refine dk_aload_n (pc' := 46) hE dX5_takeLine_45 rfl rfl rfl ?_
      refine dk_cV (pc' := 49) (as := []) hE lk_X5_62 (ct_X5_takeWork l G hGd s) dX5_takeLine_46 rfl is_8 rfl (by decide) (Nat.le_of_ble_eq_true rfl) ⟨rfl, hG, (by omega), (by omega)⟩ rfl (fun r18 σ17 hr18 _ => ?_)
      obtain ⟨v19, rfl, hfσ17, hpr18⟩ := hr18
      obtain ⟨hpr18, hgr18⟩ := hpr18
      exact dk_zret (st := []) hE hR dX5_takeLine_49 (by omega) ⟨_, rfl, (fun k_ j_ h_ => by rw [hfσ17 k_ j_ (fun w_ => h_ (w_.elim (fun x0_ => Or.inl (x0_)) (fun y0_ => y0_.elim (fun x1_ => Or.inr (Or.inl (x1_))) (fun y1_ => y1_.elim (fun x2_ => Or.inr (Or.inr (Or.inl (x2_)))) (fun y2_ => y2_.elim (fun x3_ => Or.inr (Or.inr (Or.inr (Or.inl (x3_))))) (fun y3_ => y3_.elim (fun x4_ => Or.inr (Or.inr (Or.inr (Or.inr (Or.inl (x4_)))))) (fun y4_ => y4_.elim (fun x5_ => Or.inr (Or.inr (Or.inr (Or.inr (Or.inr (Or.inl (x5_))))))) (fun y5_ => Or.inr (Or.inr (Or.inr (Or.inr (Or.inr (Or.inr (y5_))))))))))))))]), ⟨by omega, hgr18⟩⟩
    · cases q5
      refine dk_aload_n (pc' := 51) hE dX5_takeLine_50 rfl rfl rfl ?_
      refine dk_iconst (pc' := 52) hE dX5_takeLine_51 (by decide) rfl ?_
      refine dk_cV (pc' := 55) (as := [(0, 0)]) hE lk_X5_65 (ct_X5_takePart l G hGd 0 s) dX5_takeLine_52 rfl is_8 rfl (by decide) (Nat.le_of_ble_eq_true rfl) ⟨rfl, hG, (by omega), (by omega), (by omega)⟩ rfl (fun r21 σ20 hr21 _ => ?_)
      obtain ⟨v22, rfl, hfσ20, hpr21⟩ := hr21
      obtain ⟨hpr21, hgr21⟩ := hpr21
      exact dk_zret (st := []) hE hR dX5_takeLine_55 (by omega) ⟨_, rfl, (fun k_ j_ h_ => by rw [hfσ20 k_ j_ (fun w_ => h_ (w_.elim (fun x0_ => Or.inl (x0_)) (fun y0_ => y0_.elim (fun x1_ => Or.inr (Or.inl (x1_))) (fun y1_ => y1_.elim (fun x2_ => Or.inr (Or.inr (Or.inl (x2_)))) (fun y2_ => y2_.elim (fun x3_ => Or.inr (Or.inr (Or.inr (Or.inl (x3_))))) (fun y3_ => y3_.elim (fun x4_ => Or.inr (Or.inr (Or.inr (Or.inr (Or.inl (x4_)))))) (fun y4_ => y4_.elim (fun x5_ => Or.inr (Or.inr (Or.inr (Or.inr (Or.inr (Or.inl (x5_))))))) (fun y5_ => Or.inr (Or.inr (Or.inr (Or.inr (Or.inr (Or.inr (y5_))))))))))))))]), ⟨by omega, hgr21⟩⟩
    · cases q5
      refine dk_aload_n (pc' := 57) hE dX5_takeLine_56 rfl rfl rfl ?_
      refine dk_iconst (pc' := 58) hE dX5_takeLine_57 (by decide) rfl ?_
      refine dk_cV (pc' := 61) (as := [(0, 1)]) hE lk_X5_65 (ct_X5_takePart l G hGd 1 s) dX5_takeLine_58 rfl is_8 rfl (by decide) (Nat.le_of_ble_eq_true rfl) ⟨rfl, hG, (by omega), (by omega), (by omega)⟩ rfl (fun r24 σ23 hr24 _ => ?_)
      obtain ⟨v25, rfl, hfσ23, hpr24⟩ := hr24
      obtain ⟨hpr24, hgr24⟩ := hpr24
      exact dk_zret (st := []) hE hR dX5_takeLine_61 (by omega) ⟨_, rfl, (fun k_ j_ h_ => by rw [hfσ23 k_ j_ (fun w_ => h_ (w_.elim (fun x0_ => Or.inl (x0_)) (fun y0_ => y0_.elim (fun x1_ => Or.inr (Or.inl (x1_))) (fun y1_ => y1_.elim (fun x2_ => Or.inr (Or.inr (Or.inl (x2_)))) (fun y2_ => y2_.elim (fun x3_ => Or.inr (Or.inr (Or.inr (Or.inl (x3_))))) (fun y3_ => y3_.elim (fun x4_ => Or.inr (Or.inr (Or.inr (Or.inr (Or.inl (x4_)))))) (fun y4_ => y4_.elim (fun x5_ => Or.inr (Or.inr (Or.inr (Or.inr (Or.inr (Or.inl (x5_))))))) (fun y5_ => Or.inr (Or.inr (Or.inr (Or.inr (Or.inr (Or.inr (y5_))))))))))))))]), ⟨by omega, hgr24⟩⟩
set_option maxHeartbeats 4000000 in
set_option maxRecDepth 20000 in
theorem ct_X5_readInto (l : Launch) (G : dkG) (hGd : dk_Gd G) (s : Int) : dk_Ct l G dk_Ty yX5_readInto cX5_readInto 3 (some .boolean) 9 190 190 (fun av σ => av = [(4, 8), (4, s)] ∧ (GI σ) ∧ (dk_sc s)) (fun _ σ r_ σ' => ∃ z : Int, r_ = some (0, z) ∧ (∀ k_ j_ : Int, ¬ (k_ = 6 ∨ (k_ = 8 ∧ j_ = 2) ∨ (k_ = 8 ∧ j_ = 5) ∨ (k_ = 8 ∧ j_ = 6) ∨ k_ = 9 ∨ (k_ = 8 ∧ j_ = 3) ∨ (95 ≤ k_ ∧ k_ ≤ 140) ∨ (k_ = 8 ∧ j_ = 4)) → σ' k_ j_ = σ k_ j_) ∧ ((0 ≤ z ∧ z ≤ 1) ∧ GI σ')) := by
  refine dk_enter hGd (by decide) (fun av σ hpre hok => ?_)
  obtain ⟨rfl, hG, hs⟩ := hpre
  refine ⟨Nat.le_of_ble_eq_true rfl, fun E hE hR _ => ?_⟩
  show dk_PJ E 0 [(4, 8), (4, s), (9, 0)] [] 190 σ
  refine dk_aload_n (pc' := 1) hE dX5_readInto_0 rfl rfl rfl ?_
  refine dk_aload_n (pc' := 2) hE dX5_readInto_1 rfl rfl rfl ?_
  refine pf_5_4 (pc' := 5) hE fl_X5_21 dX5_readInto_2 is_8 (by omega) rfl (fun σ1 eσ1 => ?_)
  refine dk_aload_n (pc' := 6) hE dX5_readInto_5 rfl rfl rfl ?_
  refine gf_5_4 (pc' := 9) hE fl_X5_21 dX5_readInto_6 is_8 rfl (fun v2 hv2 htv2 hbv2 => ?_)
  have hq2 : s = v2 := (show v2 = s by rw [hv2, eσ1, dk_up_s]).symm
  subst hq2
  clear htv2 hbv2
  refine dk_cV (pc' := 12) (as := []) hE lk_X5_25 (ct_X4_clear l G hGd s) dX5_readInto_9 rfl (sc_is (by omega)) rfl (by decide) (Nat.le_of_ble_eq_true rfl) ⟨rfl, (by omega)⟩ rfl (fun r4 σ3 hr4 _ => ?_)
  obtain ⟨rfl, hfσ3, hpr4⟩ := hr4
  have gi5 : GI σ1 := GI_fr hG (fun k_ j_ h_ => by rw [eσ1, dk_up_n (show ¬ (k_ = 8 ∧ j_ = 4) from fun q_ => fpn16_8 q_.1 h_)])
  have gi6 : GI σ3 := GI_clear gi5 hs hfσ3 hpr4.1 hpr4.2
  refine dk_aload_n (pc' := 13) hE dX5_readInto_12 rfl rfl rfl ?_
  refine dk_iconst (pc' := 14) hE dX5_readInto_13 (by decide) rfl ?_
  refine pf_5_2 (pc' := 17) hE fl_X5_28 dX5_readInto_14 is_8 (by omega) rfl (fun σ7 eσ7 => ?_)
  refine dk_aload_n (pc' := 18) hE dX5_readInto_17 rfl rfl rfl ?_
  refine dk_iconst (pc' := 19) hE dX5_readInto_18 (by decide) rfl ?_
  refine pf_5_3 (pc' := 22) hE fl_X5_32 dX5_readInto_19 is_8 (by omega) trivial rfl (fun σ8 eσ8 => ?_)
  refine dk_aload_n (pc' := 23) hE dX5_readInto_22 rfl rfl rfl ?_
  refine dk_iconst (pc' := 24) hE dX5_readInto_23 (by decide) rfl ?_
  refine pf_5_5 (pc' := 27) hE fl_X5_36 dX5_readInto_24 is_8 trivial rfl (fun σ9 eσ9 => ?_)
  refine dk_aload_n (pc' := 28) hE dX5_readInto_27 rfl rfl rfl ?_
  refine dk_iconst (pc' := 29) hE dX5_readInto_28 (by decide) rfl ?_
  refine pf_5_6 (pc' := 32) hE fl_X5_39 dX5_readInto_29 is_8 trivial rfl (fun σ10 eσ10 => ?_)
  refine dk_aload_n (pc' := 33) hE dX5_readInto_32 rfl rfl rfl ?_
  refine gf_5_0 (pc' := 36) (w := 6) hE fl_X5_17 dX5_readInto_33 is_8 rfl rfl ?_
  refine dk_cV (pc' := 39) (as := []) hE lk_X5_42 (ct_X9_start l G hGd) dX5_readInto_36 rfl is_6 rfl (by decide) (Nat.le_of_ble_eq_true rfl) rfl rfl (fun r12 σ11 hr12 _ => ?_)
  obtain ⟨rfl, hfσ11, hpr12⟩ := hr12
  refine dk_iconst (pc' := 40) hE dX5_readInto_39 (by decide) rfl ?_
  refine dk_istore_n (pc' := 41) (ls' := [(4, 8), (4, s), (0, 0)]) hE dX5_readInto_40 rfl rfl (by decide) rfl ?_
  have lp41 : ∀ (N_ : Nat) (i : Int) (σ41c : dkS), (2147483648 - i).toNat < N_ → ((∀ k_ j_ : Int, ¬ (k_ = 6 ∨ (k_ = 8 ∧ j_ = 2) ∨ (k_ = 8 ∧ j_ = 5) ∨ (k_ = 8 ∧ j_ = 6) ∨ k_ = 9 ∨ (k_ = 8 ∧ j_ = 3) ∨ (95 ≤ k_ ∧ k_ ≤ 140)) → σ41c k_ j_ = σ11 k_ j_)) → (GI σ41c) → (0 ≤ i) → dk_PJ E 41 [(4, 8), (4, s), (0, i)] [] 190 σ41c := by
    intro N41
    induction N41 with
    | zero => intro i σ41c hm; exact absurd hm (Nat.not_lt_zero _)
    | succ N41 ih41 =>
      intro i σ41c hm41 hF41 hG41 hi
      refine dk_iload_n (pc' := 42) hE dX5_readInto_41 rfl rfl rfl ?_
      refine dk_sipush (pc' := 45) hE dX5_readInto_42 (by decide) rfl ?_
      refine dk_icmp_gt (tgt := 86) (pc' := 48) hE dX5_readInto_45 (by decide) rfl (fun hc13 => ?_) (fun hc13 => ?_)
      · skip
        refine dk_iconst (pc' := 87) hE dX5_readInto_86 (by decide) rfl ?_
        have hw14 : 95 ≤ s ∧ s ≤ 140 := by omega
        exact dk_zret (st := []) hE hR dX5_readInto_87 (by omega) ⟨_, rfl, (fun k_ j_ h_ => by rw [hF41 k_ j_ (fun w_ => h_ (w_.elim (fun x0_ => Or.inl (x0_)) (fun y0_ => y0_.elim (fun x1_ => Or.inr (Or.inl (x1_))) (fun y1_ => y1_.elim (fun x2_ => Or.inr (Or.inr (Or.inl (x2_)))) (fun y2_ => y2_.elim (fun x3_ => Or.inr (Or.inr (Or.inr (Or.inl (x3_))))) (fun y3_ => y3_.elim (fun x4_ => Or.inr (Or.inr (Or.inr (Or.inr (Or.inl (x4_)))))) (fun y4_ => y4_.elim (fun x5_ => Or.inr (Or.inr (Or.inr (Or.inr (Or.inr (Or.inl (x5_))))))) (fun y5_ => Or.inr (Or.inr (Or.inr (Or.inr (Or.inr (Or.inr (Or.inl (y5_))))))))))))))), hfσ11 k_ j_ (fun w_ => h_ (Or.inl (w_))), eσ10, dk_up_n (show ¬ (k_ = 8 ∧ j_ = 6) from fun q_ => h_ (Or.inr (Or.inr (Or.inr (Or.inl (q_)))))), eσ9, dk_up_n (show ¬ (k_ = 8 ∧ j_ = 5) from fun q_ => h_ (Or.inr (Or.inr (Or.inl (q_))))), eσ8, dk_up_n (show ¬ (k_ = 8 ∧ j_ = 3) from fun q_ => h_ (Or.inr (Or.inr (Or.inr (Or.inr (Or.inr (Or.inl (q_)))))))), eσ7, dk_up_n (show ¬ (k_ = 8 ∧ j_ = 2) from fun q_ => h_ (Or.inr (Or.inl (q_)))), hfσ3 k_ j_ (fun w_ => h_ (w_.elim (fun x0_ => Or.inr (Or.inr (Or.inr (Or.inr (Or.inr (Or.inr (Or.inl (dk_wr x0_.1 hw14)))))))) (fun y0_ => y0_.elim (fun x1_ => Or.inr (Or.inr (Or.inr (Or.inr (Or.inr (Or.inr (Or.inl (dk_wr x1_.1 hw14)))))))) (fun y1_ => y1_.elim (fun x2_ => Or.inr (Or.inr (Or.inr (Or.inr (Or.inr (Or.inr (Or.inl (dk_wr x2_.1 hw14)))))))) (fun y2_ => y2_.elim (fun x3_ => Or.inr (Or.inr (Or.inr (Or.inr (Or.inr (Or.inr (Or.inl (dk_wr x3_.1 hw14)))))))) (fun y3_ => y3_.elim (fun x4_ => Or.inr (Or.inr (Or.inr (Or.inr (Or.inr (Or.inr (Or.inl (dk_wr x4_.1 hw14)))))))) (fun y4_ => Or.inr (Or.inr (Or.inr (Or.inr (Or.inr (Or.inr (Or.inl (dk_wr y4_.1 hw14)))))))))))))), eσ1, dk_up_n (show ¬ (k_ = 8 ∧ j_ = 4) from fun q_ => h_ (Or.inr (Or.inr (Or.inr (Or.inr (Or.inr (Or.inr (Or.inr (q_)))))))))]), ⟨by omega, hG41⟩⟩
      · skip
        refine dk_aload_n (pc' := 49) hE dX5_readInto_48 rfl rfl rfl ?_
        refine gf_5_0 (pc' := 52) (w := 6) hE fl_X5_17 dX5_readInto_49 is_8 rfl rfl ?_
        refine gf_9_3 (pc' := 55) hE fl_X5_49 dX5_readInto_52 is_6 rfl (fun v15 hv15 htv15 hbv15 => ?_)
        refine dk_if_eq (tgt := 86) (pc' := 58) hE dX5_readInto_55 (by decide) rfl (fun hc16 => ?_) (fun hc16 => ?_)
        · skip
          refine dk_iconst (pc' := 87) hE dX5_readInto_86 (by decide) rfl ?_
          have hw17 : 95 ≤ s ∧ s ≤ 140 := by omega
          exact dk_zret (st := []) hE hR dX5_readInto_87 (by omega) ⟨_, rfl, (fun k_ j_ h_ => by rw [hF41 k_ j_ (fun w_ => h_ (w_.elim (fun x0_ => Or.inl (x0_)) (fun y0_ => y0_.elim (fun x1_ => Or.inr (Or.inl (x1_))) (fun y1_ => y1_.elim (fun x2_ => Or.inr (Or.inr (Or.inl (x2_)))) (fun y2_ => y2_.elim (fun x3_ => Or.inr (Or.inr (Or.inr (Or.inl (x3_))))) (fun y3_ => y3_.elim (fun x4_ => Or.inr (Or.inr (Or.inr (Or.inr (Or.inl (x4_)))))) (fun y4_ => y4_.elim (fun x5_ => Or.inr (Or.inr (Or.inr (Or.inr (Or.inr (Or.inl (x5_))))))) (fun y5_ => Or.inr (Or.inr (Or.inr (Or.inr (Or.inr (Or.inr (Or.inl (y5_))))))))))))))), hfσ11 k_ j_ (fun w_ => h_ (Or.inl (w_))), eσ10, dk_up_n (show ¬ (k_ = 8 ∧ j_ = 6) from fun q_ => h_ (Or.inr (Or.inr (Or.inr (Or.inl (q_)))))), eσ9, dk_up_n (show ¬ (k_ = 8 ∧ j_ = 5) from fun q_ => h_ (Or.inr (Or.inr (Or.inl (q_))))), eσ8, dk_up_n (show ¬ (k_ = 8 ∧ j_ = 3) from fun q_ => h_ (Or.inr (Or.inr (Or.inr (Or.inr (Or.inr (Or.inl (q_)))))))), eσ7, dk_up_n (show ¬ (k_ = 8 ∧ j_ = 2) from fun q_ => h_ (Or.inr (Or.inl (q_)))), hfσ3 k_ j_ (fun w_ => h_ (w_.elim (fun x0_ => Or.inr (Or.inr (Or.inr (Or.inr (Or.inr (Or.inr (Or.inl (dk_wr x0_.1 hw17)))))))) (fun y0_ => y0_.elim (fun x1_ => Or.inr (Or.inr (Or.inr (Or.inr (Or.inr (Or.inr (Or.inl (dk_wr x1_.1 hw17)))))))) (fun y1_ => y1_.elim (fun x2_ => Or.inr (Or.inr (Or.inr (Or.inr (Or.inr (Or.inr (Or.inl (dk_wr x2_.1 hw17)))))))) (fun y2_ => y2_.elim (fun x3_ => Or.inr (Or.inr (Or.inr (Or.inr (Or.inr (Or.inr (Or.inl (dk_wr x3_.1 hw17)))))))) (fun y3_ => y3_.elim (fun x4_ => Or.inr (Or.inr (Or.inr (Or.inr (Or.inr (Or.inr (Or.inl (dk_wr x4_.1 hw17)))))))) (fun y4_ => Or.inr (Or.inr (Or.inr (Or.inr (Or.inr (Or.inr (Or.inl (dk_wr y4_.1 hw17)))))))))))))), eσ1, dk_up_n (show ¬ (k_ = 8 ∧ j_ = 4) from fun q_ => h_ (Or.inr (Or.inr (Or.inr (Or.inr (Or.inr (Or.inr (Or.inr (q_)))))))))]), ⟨by omega, hG41⟩⟩
        · skip
          refine dk_aload_n (pc' := 59) hE dX5_readInto_58 rfl rfl rfl ?_
          have hz18 : σ41c 8 4 = s := by rw [hF41 8 4 (by omega), hfσ11 8 4 (by omega), eσ10, dk_up_n (show ¬ (8 = 8 ∧ 4 = 6) by omega), eσ9, dk_up_n (show ¬ (8 = 8 ∧ 4 = 5) by omega), eσ8, dk_up_n (show ¬ (8 = 8 ∧ 4 = 3) by omega), eσ7, dk_up_n (show ¬ (8 = 8 ∧ 4 = 2) by omega), hfσ3 8 4 (by omega), eσ1, dk_up_s]
          refine dk_cV (pc' := 62) (as := []) hE lk_X5_52 (ct_X5_takeLine l G hGd s) dX5_readInto_59 rfl is_8 rfl (by decide) (Nat.le_of_ble_eq_true rfl) ⟨rfl, hG41, (by omega), (by omega)⟩ rfl (fun r20 σ19 hr20 _ => ?_)
          obtain ⟨v21, rfl, hfσ19, hpr20⟩ := hr20
          obtain ⟨hpr20, hgr20⟩ := hpr20
          refine dk_if_ne (tgt := 67) (pc' := 65) hE dX5_readInto_62 (by decide) rfl (fun hc22 => ?_) (fun hc22 => ?_)
          · skip
            refine dk_aload_n (pc' := 68) hE dX5_readInto_67 rfl rfl rfl ?_
            refine gf_5_4 (pc' := 71) hE fl_X5_21 dX5_readInto_68 is_8 rfl (fun v23 hv23 htv23 hbv23 => ?_)
            have hq23 : s = v23 := (show v23 = s by rw [hv23, hfσ19 8 4 (by omega), hF41 8 4 (by omega), hfσ11 8 4 (by omega), eσ10, dk_up_n (show ¬ (8 = 8 ∧ 4 = 6) by omega), eσ9, dk_up_n (show ¬ (8 = 8 ∧ 4 = 5) by omega), eσ8, dk_up_n (show ¬ (8 = 8 ∧ 4 = 3) by omega), eσ7, dk_up_n (show ¬ (8 = 8 ∧ 4 = 2) by omega), hfσ3 8 4 (by omega), hv2]).symm
            subst hq23
            clear htv23 hbv23
            refine dk_dup (pc' := 72) hE dX5_readInto_71 (show (4 : Nat) ≠ 3 by decide) rfl ?_
            refine gf_4_13 (pc' := 75) hE fl_X5_56 dX5_readInto_72 (sc_is (by omega)) rfl (fun v24 hv24 htv24 hbv24 => ?_)
            refine dk_iconst (pc' := 76) hE dX5_readInto_75 (by decide) rfl ?_
            refine dk_iaddW (pc' := 77) hE dX5_readInto_76 rfl (fun v25 hv25 _ => ?_)
            refine pf_4_13 (pc' := 80) hE fl_X5_56 dX5_readInto_77 (sc_is (by omega)) trivial rfl (fun σ26 eσ26 => ?_)
            obtain ⟨v27, hv27⟩ : ∃ z : Int, z = i + 1 := ⟨_, rfl⟩
            refine dk_iinc (pc' := 83) (ls' := [(4, 8), (4, s), (0, v27)]) hE dX5_readInto_80 rfl hv27.symm (by omega) rfl (by decide) rfl ?_
            refine dk_goto (tgt := 41) hE dX5_readInto_83 (by decide) ?_
            have hw28 : 95 ≤ s ∧ s ≤ 140 := by omega
            have gi29 : GI σ26 := GI_fr hgr20 (fun k_ j_ h_ => by rw [eσ26, dk_up_n (show ¬ (k_ = s ∧ j_ = 13) by omega)])
            exact ih41 v27 σ26 (by omega) (fun k_ j_ h_ => by rw [eσ26, dk_up_n (show ¬ (k_ = s ∧ j_ = 13) from fun q_ => h_ (Or.inr (Or.inr (Or.inr (Or.inr (Or.inr (Or.inr (dk_wr q_.1 hw28)))))))), hfσ19 k_ j_ (fun w_ => h_ (w_.elim (fun x0_ => Or.inl (x0_)) (fun y0_ => y0_.elim (fun x1_ => Or.inr (Or.inl (x1_))) (fun y1_ => y1_.elim (fun x2_ => Or.inr (Or.inr (Or.inl (x2_)))) (fun y2_ => y2_.elim (fun x3_ => Or.inr (Or.inr (Or.inr (Or.inl (x3_))))) (fun y3_ => y3_.elim (fun x4_ => Or.inr (Or.inr (Or.inr (Or.inr (Or.inl (x4_)))))) (fun y4_ => y4_.elim (fun x5_ => Or.inr (Or.inr (Or.inr (Or.inr (Or.inr (Or.inl (x5_))))))) (fun y5_ => Or.inr (Or.inr (Or.inr (Or.inr (Or.inr (Or.inr (y5_)))))))))))))), hF41 k_ j_ (fun w_ => h_ (w_.elim (fun x0_ => Or.inl (x0_)) (fun y0_ => y0_.elim (fun x1_ => Or.inr (Or.inl (x1_))) (fun y1_ => y1_.elim (fun x2_ => Or.inr (Or.inr (Or.inl (x2_)))) (fun y2_ => y2_.elim (fun x3_ => Or.inr (Or.inr (Or.inr (Or.inl (x3_))))) (fun y3_ => y3_.elim (fun x4_ => Or.inr (Or.inr (Or.inr (Or.inr (Or.inl (x4_)))))) (fun y4_ => y4_.elim (fun x5_ => Or.inr (Or.inr (Or.inr (Or.inr (Or.inr (Or.inl (x5_))))))) (fun y5_ => Or.inr (Or.inr (Or.inr (Or.inr (Or.inr (Or.inr (y5_))))))))))))))]) gi29 (by omega)
          · skip
            refine dk_iconst (pc' := 66) hE dX5_readInto_65 (by decide) rfl ?_
            have hw30 : 95 ≤ s ∧ s ≤ 140 := by omega
            exact dk_zret (st := []) hE hR dX5_readInto_66 (by omega) ⟨_, rfl, (fun k_ j_ h_ => by rw [hfσ19 k_ j_ (fun w_ => h_ (w_.elim (fun x0_ => Or.inl (x0_)) (fun y0_ => y0_.elim (fun x1_ => Or.inr (Or.inl (x1_))) (fun y1_ => y1_.elim (fun x2_ => Or.inr (Or.inr (Or.inl (x2_)))) (fun y2_ => y2_.elim (fun x3_ => Or.inr (Or.inr (Or.inr (Or.inl (x3_))))) (fun y3_ => y3_.elim (fun x4_ => Or.inr (Or.inr (Or.inr (Or.inr (Or.inl (x4_)))))) (fun y4_ => y4_.elim (fun x5_ => Or.inr (Or.inr (Or.inr (Or.inr (Or.inr (Or.inl (x5_))))))) (fun y5_ => Or.inr (Or.inr (Or.inr (Or.inr (Or.inr (Or.inr (Or.inl (y5_))))))))))))))), hF41 k_ j_ (fun w_ => h_ (w_.elim (fun x0_ => Or.inl (x0_)) (fun y0_ => y0_.elim (fun x1_ => Or.inr (Or.inl (x1_))) (fun y1_ => y1_.elim (fun x2_ => Or.inr (Or.inr (Or.inl (x2_)))) (fun y2_ => y2_.elim (fun x3_ => Or.inr (Or.inr (Or.inr (Or.inl (x3_))))) (fun y3_ => y3_.elim (fun x4_ => Or.inr (Or.inr (Or.inr (Or.inr (Or.inl (x4_)))))) (fun y4_ => y4_.elim (fun x5_ => Or.inr (Or.inr (Or.inr (Or.inr (Or.inr (Or.inl (x5_))))))) (fun y5_ => Or.inr (Or.inr (Or.inr (Or.inr (Or.inr (Or.inr (Or.inl (y5_))))))))))))))), hfσ11 k_ j_ (fun w_ => h_ (Or.inl (w_))), eσ10, dk_up_n (show ¬ (k_ = 8 ∧ j_ = 6) from fun q_ => h_ (Or.inr (Or.inr (Or.inr (Or.inl (q_)))))), eσ9, dk_up_n (show ¬ (k_ = 8 ∧ j_ = 5) from fun q_ => h_ (Or.inr (Or.inr (Or.inl (q_))))), eσ8, dk_up_n (show ¬ (k_ = 8 ∧ j_ = 3) from fun q_ => h_ (Or.inr (Or.inr (Or.inr (Or.inr (Or.inr (Or.inl (q_)))))))), eσ7, dk_up_n (show ¬ (k_ = 8 ∧ j_ = 2) from fun q_ => h_ (Or.inr (Or.inl (q_)))), hfσ3 k_ j_ (fun w_ => h_ (w_.elim (fun x0_ => Or.inr (Or.inr (Or.inr (Or.inr (Or.inr (Or.inr (Or.inl (dk_wr x0_.1 hw30)))))))) (fun y0_ => y0_.elim (fun x1_ => Or.inr (Or.inr (Or.inr (Or.inr (Or.inr (Or.inr (Or.inl (dk_wr x1_.1 hw30)))))))) (fun y1_ => y1_.elim (fun x2_ => Or.inr (Or.inr (Or.inr (Or.inr (Or.inr (Or.inr (Or.inl (dk_wr x2_.1 hw30)))))))) (fun y2_ => y2_.elim (fun x3_ => Or.inr (Or.inr (Or.inr (Or.inr (Or.inr (Or.inr (Or.inl (dk_wr x3_.1 hw30)))))))) (fun y3_ => y3_.elim (fun x4_ => Or.inr (Or.inr (Or.inr (Or.inr (Or.inr (Or.inr (Or.inl (dk_wr x4_.1 hw30)))))))) (fun y4_ => Or.inr (Or.inr (Or.inr (Or.inr (Or.inr (Or.inr (Or.inl (dk_wr y4_.1 hw30)))))))))))))), eσ1, dk_up_n (show ¬ (k_ = 8 ∧ j_ = 4) from fun q_ => h_ (Or.inr (Or.inr (Or.inr (Or.inr (Or.inr (Or.inr (Or.inr (q_)))))))))]), ⟨by omega, hgr20⟩⟩
  have gi31 : GI σ11 := GI_fr gi6 (fun k_ j_ h_ => by rw [hfσ11 k_ j_ (fpw16_3205328614 k_ j_ h_), eσ10, dk_up_n (show ¬ (k_ = 8 ∧ j_ = 6) from fun q_ => fpn16_8 q_.1 h_), eσ9, dk_up_n (show ¬ (k_ = 8 ∧ j_ = 5) from fun q_ => fpn16_8 q_.1 h_), eσ8, dk_up_n (show ¬ (k_ = 8 ∧ j_ = 3) from fun q_ => fpn16_8 q_.1 h_), eσ7, dk_up_n (show ¬ (k_ = 8 ∧ j_ = 2) from fun q_ => fpn16_8 q_.1 h_)])
  exact lp41 _ 0 σ11 (Nat.lt_succ_self _) (fun k_ j_ h_ => rfl) gi31 (by omega)
