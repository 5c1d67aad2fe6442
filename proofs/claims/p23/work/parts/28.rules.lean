set_option maxHeartbeats 4000000 in
set_option maxRecDepth 20000 in
theorem ct_X11_put (l : Launch) (G : dkG) (hGd : dk_Gd G) (a b p : Int) : dk_Ct l G dk_Ty yX11_put cX11_put 3 (none) 1 190 190 (fun av σ => av = [(4, 141), (0, a), (0, b)] ∧ (p = σ 141 45) ∧ (0 ≤ p ∧ p ≤ 79)) (fun _ σ r_ σ' => r_ = none ∧ (∀ k_ j_ : Int, ¬ ((k_ = 166 ∧ j_ = p) ∨ (k_ = 167 ∧ j_ = p) ∨ (k_ = 141 ∧ j_ = 45)) → σ' k_ j_ = σ k_ j_) ∧ (σ' 166 p = a ∧ σ' 167 p = b ∧ σ' 141 45 = p + 1)) := by
  refine dk_enter hGd (by decide) (fun av σ hpre hok => ?_)
  obtain ⟨rfl, hp, hp1⟩ := hpre
  refine ⟨Nat.le_of_ble_eq_true rfl, fun E hE hR _ => ?_⟩
  have hi_a : dk_i32 a := dk_oki (hok _ (by simp))
  have hi_b : dk_i32 b := dk_oki (hok _ (by simp))
  show dk_PJ E 0 [(4, 141), (0, a), (0, b)] [] 190 σ
  refine dk_aload_n (pc' := 1) hE dX11_put_0 rfl rfl rfl ?_
  refine gf_11_37 (pc' := 4) (w := 166) hE fl_X11_89 dX11_put_1 is_141 rfl rfl ?_
  refine dk_aload_n (pc' := 5) hE dX11_put_4 rfl rfl rfl ?_
  refine gf_11_45 (pc' := 8) hE fl_X11_389 dX11_put_5 is_141 rfl (fun v1 hv1 htv1 hbv1 => ?_)
  have hq1 : p = v1 := (show v1 = p by rw [hv1, hp]).symm
  subst hq1
  clear htv1 hbv1
  refine dk_iload_n (pc' := 9) hE dX11_put_8 rfl rfl rfl ?_
  refine pa_94 (pc' := 10) hE dX11_put_9 is_166 (by omega) trivial rfl (fun σ2 eσ2 => ?_)
  refine dk_aload_n (pc' := 11) hE dX11_put_10 rfl rfl rfl ?_
  refine gf_11_38 (pc' := 14) (w := 167) hE fl_X11_92 dX11_put_11 is_141 rfl rfl ?_
  refine dk_aload_n (pc' := 15) hE dX11_put_14 rfl rfl rfl ?_
  refine gf_11_45 (pc' := 18) hE fl_X11_389 dX11_put_15 is_141 rfl (fun v3 hv3 htv3 hbv3 => ?_)
  have hq3 : p = v3 := (show v3 = p by rw [hv3, eσ2, dk_up_n (show ¬ (141 = 166 ∧ 45 = p) by omega), hv1]).symm
  subst hq3
  clear htv3 hbv3
  refine dk_iload_n (pc' := 19) hE dX11_put_18 rfl rfl rfl ?_
  refine pa_95 (pc' := 20) hE dX11_put_19 is_167 (by omega) trivial rfl (fun σ4 eσ4 => ?_)
  refine dk_aload_n (pc' := 21) hE dX11_put_20 rfl rfl rfl ?_
  refine dk_dup (pc' := 22) hE dX11_put_21 (show (4 : Nat) ≠ 3 by decide) rfl ?_
  refine gf_11_45 (pc' := 25) hE fl_X11_389 dX11_put_22 is_141 rfl (fun v5 hv5 htv5 hbv5 => ?_)
  have hq5 : p = v5 := (show v5 = p by rw [hv5, eσ4, dk_up_n (show ¬ (141 = 167 ∧ 45 = p) by omega), hv3]).symm
  subst hq5
  clear htv5 hbv5
  refine dk_iconst (pc' := 26) hE dX11_put_25 (by decide) rfl ?_
  obtain ⟨v6, hv6⟩ : ∃ z : Int, z = p + 1 := ⟨_, rfl⟩
  refine dk_iadd (pc' := 27) hE dX11_put_26 hv6.symm (by omega) rfl ?_
  refine pf_11_45 (pc' := 30) hE fl_X11_389 dX11_put_27 is_141 (by omega) rfl (fun σ7 eσ7 => ?_)
  have hz8 : σ7 166 p = a := by rw [eσ7, dk_up_n (show ¬ (166 = 141 ∧ p = 45) by omega), eσ4, dk_up_n (show ¬ (166 = 167 ∧ p = p) by omega), eσ2, dk_up_s]
  have hz9 : σ7 167 p = b := by rw [eσ7, dk_up_n (show ¬ (167 = 141 ∧ p = 45) by omega), eσ4, dk_up_s]
  have hz10 : σ7 141 45 = v6 := by rw [eσ7, dk_up_s]
  exact dk_vret (st := []) hE hR dX11_put_30 ⟨rfl, (fun k_ j_ h_ => by rw [eσ7, dk_up_n (show ¬ (k_ = 141 ∧ j_ = 45) from fun q_ => h_ (Or.inr (Or.inr (q_)))), eσ4, dk_up_n (show ¬ (k_ = 167 ∧ j_ = p) from fun q_ => h_ (Or.inr (Or.inl (q_)))), eσ2, dk_up_n (show ¬ (k_ = 166 ∧ j_ = p) from fun q_ => h_ (Or.inl (q_)))]), by omega⟩
set_option maxHeartbeats 4000000 in
set_option maxRecDepth 20000 in
theorem ct_X11_sign0 (l : Launch) (G : dkG) (hGd : dk_Gd G) (a b r n i : Int) : dk_Ct l G dk_Ty yX11_sign0 cX11_sign0 3 (none) 1 190 190 (fun av σ => av = [(4, 141), (0, a), (0, b)] ∧ (r = σ 141 41) ∧ (n = σ 141 42) ∧ (i = 600 * r + n) ∧ (0 ≤ r ∧ r ≤ 5) ∧ (0 ≤ n ∧ n ≤ 599)) (fun _ σ r_ σ' => r_ = none ∧ (∀ k_ j_ : Int, ¬ ((k_ = 164 ∧ j_ = i) ∨ (k_ = 165 ∧ j_ = i) ∨ (k_ = 141 ∧ j_ = 42)) → σ' k_ j_ = σ k_ j_) ∧ (σ' 164 i = a ∧ σ' 141 42 = n + 1)) := by
  refine dk_enter hGd (by decide) (fun av σ hpre hok => ?_)
  obtain ⟨rfl, hr, hn, hi, hr1, hn1⟩ := hpre
  refine ⟨Nat.le_of_ble_eq_true rfl, fun E hE hR _ => ?_⟩
  have hi_a : dk_i32 a := dk_oki (hok _ (by simp))
  have hi_b : dk_i32 b := dk_oki (hok _ (by simp))
  show dk_PJ E 0 [(4, 141), (0, a), (0, b)] [] 190 σ
  refine dk_aload_n (pc' := 1) hE dX11_sign0_0 rfl rfl rfl ?_
  refine gf_11_35 (pc' := 4) (w := 164) hE fl_X11_83 dX11_sign0_1 is_141 rfl rfl ?_
  refine dk_sipush (pc' := 7) hE dX11_sign0_4 (by decide) rfl ?_
  refine dk_aload_n (pc' := 8) hE dX11_sign0_7 rfl rfl rfl ?_
  refine gf_11_41 (pc' := 11) hE fl_X11_374 dX11_sign0_8 is_141 rfl (fun v1 hv1 htv1 hbv1 => ?_)
  have hq1 : r = v1 := (show v1 = r by rw [hv1, hr]).symm
  subst hq1
  clear htv1 hbv1
  obtain ⟨v2, hv2⟩ : ∃ z : Int, z = 600 * r := ⟨_, rfl⟩
  refine dk_imul (pc' := 12) hE dX11_sign0_11 hv2.symm (by omega) rfl ?_
  refine dk_aload_n (pc' := 13) hE dX11_sign0_12 rfl rfl rfl ?_
  refine gf_11_42 (pc' := 16) hE fl_X11_377 dX11_sign0_13 is_141 rfl (fun v3 hv3 htv3 hbv3 => ?_)
  have hq3 : n = v3 := (show v3 = n by rw [hv3, hn]).symm
  subst hq3
  clear htv3 hbv3
  obtain ⟨v4, hv4⟩ : ∃ z : Int, z = v2 + n := ⟨_, rfl⟩
  refine dk_iadd (pc' := 17) hE dX11_sign0_16 hv4.symm (by omega) rfl ?_
  have hrnv4 : i = v4 := by omega
  subst hrnv4
  refine dk_iload_n (pc' := 18) hE dX11_sign0_17 rfl rfl rfl ?_
  refine pa_92 (pc' := 19) hE dX11_sign0_18 is_164 (by omega) trivial rfl (fun σ5 eσ5 => ?_)
  refine dk_aload_n (pc' := 20) hE dX11_sign0_19 rfl rfl rfl ?_
  refine gf_11_36 (pc' := 23) (w := 165) hE fl_X11_86 dX11_sign0_20 is_141 rfl rfl ?_
  refine dk_sipush (pc' := 26) hE dX11_sign0_23 (by decide) rfl ?_
  refine dk_aload_n (pc' := 27) hE dX11_sign0_26 rfl rfl rfl ?_
  refine gf_11_41 (pc' := 30) hE fl_X11_374 dX11_sign0_27 is_141 rfl (fun v6 hv6 htv6 hbv6 => ?_)
  have hq6 : r = v6 := (show v6 = r by rw [hv6, eσ5, dk_up_n (show ¬ (141 = 164 ∧ 41 = i) by omega), hv1]).symm
  subst hq6
  clear htv6 hbv6
  obtain ⟨v7, hv7⟩ : ∃ z : Int, z = 600 * r := ⟨_, rfl⟩
  refine dk_imul (pc' := 31) hE dX11_sign0_30 hv7.symm (by omega) rfl ?_
  refine dk_aload_n (pc' := 32) hE dX11_sign0_31 rfl rfl rfl ?_
  refine gf_11_42 (pc' := 35) hE fl_X11_377 dX11_sign0_32 is_141 rfl (fun v8 hv8 htv8 hbv8 => ?_)
  have hq8 : n = v8 := (show v8 = n by rw [hv8, eσ5, dk_up_n (show ¬ (141 = 164 ∧ 42 = i) by omega), hv3]).symm
  subst hq8
  clear htv8 hbv8
  obtain ⟨v9, hv9⟩ : ∃ z : Int, z = v7 + n := ⟨_, rfl⟩
  refine dk_iadd (pc' := 36) hE dX11_sign0_35 hv9.symm (by omega) rfl ?_
  have hrnv9 : i = v9 := by omega
  subst hrnv9
  refine dk_iload_n (pc' := 37) hE dX11_sign0_36 rfl rfl rfl ?_
  refine pa_93 (pc' := 38) hE dX11_sign0_37 is_165 (by omega) trivial rfl (fun σ10 eσ10 => ?_)
  refine dk_aload_n (pc' := 39) hE dX11_sign0_38 rfl rfl rfl ?_
  refine dk_dup (pc' := 40) hE dX11_sign0_39 (show (4 : Nat) ≠ 3 by decide) rfl ?_
  refine gf_11_42 (pc' := 43) hE fl_X11_377 dX11_sign0_40 is_141 rfl (fun v11 hv11 htv11 hbv11 => ?_)
  have hq11 : n = v11 := (show v11 = n by rw [hv11, eσ10, dk_up_n (show ¬ (141 = 165 ∧ 42 = i) by omega), hv8]).symm
  subst hq11
  clear htv11 hbv11
  refine dk_iconst (pc' := 44) hE dX11_sign0_43 (by decide) rfl ?_
  obtain ⟨v12, hv12⟩ : ∃ z : Int, z = n + 1 := ⟨_, rfl⟩
  refine dk_iadd (pc' := 45) hE dX11_sign0_44 hv12.symm (by omega) rfl ?_
  refine pf_11_42 (pc' := 48) hE fl_X11_377 dX11_sign0_45 is_141 (by omega) rfl (fun σ13 eσ13 => ?_)
  have hz14 : σ13 164 i = a := by rw [eσ13, dk_up_n (show ¬ (164 = 141 ∧ i = 42) by omega), eσ10, dk_up_n (show ¬ (164 = 165 ∧ i = i) by omega), eσ5, dk_up_s]
  have hz15 : σ13 141 42 = v12 := by rw [eσ13, dk_up_s]
  exact dk_vret (st := []) hE hR dX11_sign0_48 ⟨rfl, (fun k_ j_ h_ => by rw [eσ13, dk_up_n (show ¬ (k_ = 141 ∧ j_ = 42) from fun q_ => h_ (Or.inr (Or.inr (q_)))), eσ10, dk_up_n (show ¬ (k_ = 165 ∧ j_ = i) from fun q_ => h_ (Or.inr (Or.inl (q_)))), eσ5, dk_up_n (show ¬ (k_ = 164 ∧ j_ = i) from fun q_ => h_ (Or.inl (q_)))]), by omega⟩
set_option maxHeartbeats 4000000 in
set_option maxRecDepth 20000 in
theorem ct_X11_wordHere (l : Launch) (G : dkG) (hGd : dk_Gd G) : dk_Ct l G dk_Ty yX11_wordHere cX11_wordHere 1 (some .int) 2 190 190 (fun av σ => av = [(4, 141)]) (fun _ σ r_ σ' => ∃ z : Int, r_ = some (0, z) ∧ (∀ k_ j_ : Int, ¬ (False) → σ' k_ j_ = σ k_ j_) ∧ (0 ≤ z ∧ z ≤ 122 ∧ (z ≠ 0 → 97 ≤ z ∧ σ 141 8 ≠ 0))) := by
  refine dk_enter hGd (by decide) (fun av σ hpre hok => ?_)
  subst hpre
  refine ⟨Nat.le_of_ble_eq_true rfl, fun E hE hR _ => ?_⟩
  show dk_PJ E 0 [(4, 141)] [] 190 σ
  refine dk_aload_n (pc' := 1) hE dX11_wordHere_0 rfl rfl rfl ?_
  refine dk_ldc2 (pc' := 4) hE dX11_wordHere_1 cs_X11_196 (by decide) rfl ?_
  refine dk_cV (pc' := 7) (as := [(3, 1651467385)]) hE lk_X11_281 (ct_X11_isWord l G hGd 1651467385) dX11_wordHere_4 rfl is_141 rfl (by decide) (Nat.le_of_ble_eq_true rfl) rfl rfl (fun r2 σ1 hr2 hor2 => ?_)
  obtain ⟨v3, rfl, hfσ1, hpr2⟩ := hr2
  have hsσ1 : σ = σ1 := (funext (fun k => funext (fun j => hfσ1 k j not_false))).symm
  subst hsσ1
  rcases hpr2 with ⟨rfl, hpr2⟩ | rfl
  · skip
    refine dk_if_eq (tgt := 13) (pc' := 10) hE dX11_wordHere_7 (by decide) rfl (fun hc4 => absurd hc4 (by decide)) (fun hc4 => ?_)
    refine dk_bipush (pc' := 12) hE dX11_wordHere_10 (by decide) rfl ?_
    exact dk_iret (st := []) hE hR dX11_wordHere_12 ⟨_, rfl, (fun k_ j_ h_ => rfl), by omega⟩
  · skip
    refine dk_if_eq (tgt := 13) (pc' := 10) hE dX11_wordHere_7 (by decide) rfl (fun hc5 => ?_) (fun hc5 => absurd hc5 (by decide))
    refine dk_aload_n (pc' := 14) hE dX11_wordHere_13 rfl rfl rfl ?_
    refine dk_ldc2 (pc' := 17) hE dX11_wordHere_14 cs_X11_176 (by decide) rfl ?_
    refine dk_cV (pc' := 20) (as := [(3, 1885434484)]) hE lk_X11_281 (ct_X11_isWord l G hGd 1885434484) dX11_wordHere_17 rfl is_141 rfl (by decide) (Nat.le_of_ble_eq_true rfl) rfl rfl (fun r7 σ6 hr7 hor7 => ?_)
    obtain ⟨v8, rfl, hfσ6, hpr7⟩ := hr7
    have hsσ6 : σ = σ6 := (funext (fun k => funext (fun j => hfσ6 k j not_false))).symm
    subst hsσ6
    rcases hpr7 with ⟨rfl, hpr7⟩ | rfl
    · skip
      refine dk_if_eq (tgt := 26) (pc' := 23) hE dX11_wordHere_20 (by decide) rfl (fun hc9 => absurd hc9 (by decide)) (fun hc9 => ?_)
      refine dk_bipush (pc' := 25) hE dX11_wordHere_23 (by decide) rfl ?_
      exact dk_iret (st := []) hE hR dX11_wordHere_25 ⟨_, rfl, (fun k_ j_ h_ => rfl), by omega⟩
    · skip
      refine dk_if_eq (tgt := 26) (pc' := 23) hE dX11_wordHere_20 (by decide) rfl (fun hc10 => ?_) (fun hc10 => absurd hc10 (by decide))
      refine dk_aload_n (pc' := 27) hE dX11_wordHere_26 rfl rfl rfl ?_
      refine dk_ldc2 (pc' := 30) hE dX11_wordHere_27 cs_X11_198 (by decide) rfl ?_
      refine dk_cV (pc' := 33) (as := [(3, 461414299502)]) hE lk_X11_281 (ct_X11_isWord l G hGd 461414299502) dX11_wordHere_30 rfl is_141 rfl (by decide) (Nat.le_of_ble_eq_true rfl) rfl rfl (fun r12 σ11 hr12 hor12 => ?_)
      obtain ⟨v13, rfl, hfσ11, hpr12⟩ := hr12
      have hsσ11 : σ = σ11 := (funext (fun k => funext (fun j => hfσ11 k j not_false))).symm
      subst hsσ11
      rcases hpr12 with ⟨rfl, hpr12⟩ | rfl
      · skip
        refine dk_if_eq (tgt := 39) (pc' := 36) hE dX11_wordHere_33 (by decide) rfl (fun hc14 => absurd hc14 (by decide)) (fun hc14 => ?_)
        refine dk_bipush (pc' := 38) hE dX11_wordHere_36 (by decide) rfl ?_
        exact dk_iret (st := []) hE hR dX11_wordHere_38 ⟨_, rfl, (fun k_ j_ h_ => rfl), by omega⟩
      · skip
        refine dk_if_eq (tgt := 39) (pc' := 36) hE dX11_wordHere_33 (by decide) rfl (fun hc15 => ?_) (fun hc15 => absurd hc15 (by decide))
        refine dk_aload_n (pc' := 40) hE dX11_wordHere_39 rfl rfl rfl ?_
        refine dk_ldc2 (pc' := 43) hE dX11_wordHere_40 cs_X11_200 (by decide) rfl ?_
        refine dk_cV (pc' := 46) (as := [(3, 1818325876)]) hE lk_X11_281 (ct_X11_isWord l G hGd 1818325876) dX11_wordHere_43 rfl is_141 rfl (by decide) (Nat.le_of_ble_eq_true rfl) rfl rfl (fun r17 σ16 hr17 hor17 => ?_)
        obtain ⟨v18, rfl, hfσ16, hpr17⟩ := hr17
        have hsσ16 : σ = σ16 := (funext (fun k => funext (fun j => hfσ16 k j not_false))).symm
        subst hsσ16
        rcases hpr17 with ⟨rfl, hpr17⟩ | rfl
        · skip
          refine dk_if_eq (tgt := 52) (pc' := 49) hE dX11_wordHere_46 (by decide) rfl (fun hc19 => absurd hc19 (by decide)) (fun hc19 => ?_)
          refine dk_bipush (pc' := 51) hE dX11_wordHere_49 (by decide) rfl ?_
          exact dk_iret (st := []) hE hR dX11_wordHere_51 ⟨_, rfl, (fun k_ j_ h_ => rfl), by omega⟩
        · skip
          refine dk_if_eq (tgt := 52) (pc' := 49) hE dX11_wordHere_46 (by decide) rfl (fun hc20 => ?_) (fun hc20 => absurd hc20 (by decide))
          refine dk_aload_n (pc' := 53) hE dX11_wordHere_52 rfl rfl rfl ?_
          refine dk_ldc2 (pc' := 56) hE dX11_wordHere_53 cs_X11_202 (by decide) rfl ?_
          refine dk_cV (pc' := 59) (as := [(3, 1819238756)]) hE lk_X11_281 (ct_X11_isWord l G hGd 1819238756) dX11_wordHere_56 rfl is_141 rfl (by decide) (Nat.le_of_ble_eq_true rfl) rfl rfl (fun r22 σ21 hr22 hor22 => ?_)
          obtain ⟨v23, rfl, hfσ21, hpr22⟩ := hr22
          have hsσ21 : σ = σ21 := (funext (fun k => funext (fun j => hfσ21 k j not_false))).symm
          subst hsσ21
          rcases hpr22 with ⟨rfl, hpr22⟩ | rfl
          · skip
            refine dk_if_eq (tgt := 65) (pc' := 62) hE dX11_wordHere_59 (by decide) rfl (fun hc24 => absurd hc24 (by decide)) (fun hc24 => ?_)
            refine dk_bipush (pc' := 64) hE dX11_wordHere_62 (by decide) rfl ?_
            exact dk_iret (st := []) hE hR dX11_wordHere_64 ⟨_, rfl, (fun k_ j_ h_ => rfl), by omega⟩
          · skip
            refine dk_if_eq (tgt := 65) (pc' := 62) hE dX11_wordHere_59 (by decide) rfl (fun hc25 => ?_) (fun hc25 => absurd hc25 (by decide))
            refine dk_aload_n (pc' := 66) hE dX11_wordHere_65 rfl rfl rfl ?_
            refine dk_ldc2 (pc' := 69) hE dX11_wordHere_66 cs_X11_204 (by decide) rfl ?_
            refine dk_cV (pc' := 72) (as := [(3, 1768189029)]) hE lk_X11_281 (ct_X11_isWord l G hGd 1768189029) dX11_wordHere_69 rfl is_141 rfl (by decide) (Nat.le_of_ble_eq_true rfl) rfl rfl (fun r27 σ26 hr27 hor27 => ?_)
            obtain ⟨v28, rfl, hfσ26, hpr27⟩ := hr27
            have hsσ26 : σ = σ26 := (funext (fun k => funext (fun j => hfσ26 k j not_false))).symm
            subst hsσ26
            rcases hpr27 with ⟨rfl, hpr27⟩ | rfl
            · skip
              refine dk_if_eq (tgt := 78) (pc' := 75) hE dX11_wordHere_72 (by decide) rfl (fun hc29 => absurd hc29 (by decide)) (fun hc29 => ?_)
              refine dk_bipush (pc' := 77) hE dX11_wordHere_75 (by decide) rfl ?_
              exact dk_iret (st := []) hE hR dX11_wordHere_77 ⟨_, rfl, (fun k_ j_ h_ => rfl), by omega⟩
            · skip
              refine dk_if_eq (tgt := 78) (pc' := 75) hE dX11_wordHere_72 (by decide) rfl (fun hc30 => ?_) (fun hc30 => absurd hc30 (by decide))
              refine dk_aload_n (pc' := 79) hE dX11_wordHere_78 rfl rfl rfl ?_
              refine dk_ldc2 (pc' := 82) hE dX11_wordHere_79 cs_X11_206 (by decide) rfl ?_
              refine dk_cV (pc' := 85) (as := [(3, 448377484921)]) hE lk_X11_281 (ct_X11_isWord l G hGd 448377484921) dX11_wordHere_82 rfl is_141 rfl (by decide) (Nat.le_of_ble_eq_true rfl) rfl rfl (fun r32 σ31 hr32 hor32 => ?_)
              obtain ⟨v33, rfl, hfσ31, hpr32⟩ := hr32
              have hsσ31 : σ = σ31 := (funext (fun k => funext (fun j => hfσ31 k j not_false))).symm
              subst hsσ31
              rcases hpr32 with ⟨rfl, hpr32⟩ | rfl
              · skip
                refine dk_if_eq (tgt := 91) (pc' := 88) hE dX11_wordHere_85 (by decide) rfl (fun hc34 => absurd hc34 (by decide)) (fun hc34 => ?_)
                refine dk_bipush (pc' := 90) hE dX11_wordHere_88 (by decide) rfl ?_
                exact dk_iret (st := []) hE hR dX11_wordHere_90 ⟨_, rfl, (fun k_ j_ h_ => rfl), by omega⟩
              · skip
                refine dk_if_eq (tgt := 91) (pc' := 88) hE dX11_wordHere_85 (by decide) rfl (fun hc35 => ?_) (fun hc35 => absurd hc35 (by decide))
                refine dk_aload_n (pc' := 92) hE dX11_wordHere_91 rfl rfl rfl ?_
                refine dk_ldc2 (pc' := 95) hE dX11_wordHere_92 cs_X11_172 (by decide) rfl ?_
                refine dk_cV (pc' := 98) (as := [(3, 1751216740)]) hE lk_X11_281 (ct_X11_isWord l G hGd 1751216740) dX11_wordHere_95 rfl is_141 rfl (by decide) (Nat.le_of_ble_eq_true rfl) rfl rfl (fun r37 σ36 hr37 hor37 => ?_)
                obtain ⟨v38, rfl, hfσ36, hpr37⟩ := hr37
                have hsσ36 : σ = σ36 := (funext (fun k => funext (fun j => hfσ36 k j not_false))).symm
                subst hsσ36
                rcases hpr37 with ⟨rfl, hpr37⟩ | rfl
                · skip
                  refine dk_if_eq (tgt := 104) (pc' := 101) hE dX11_wordHere_98 (by decide) rfl (fun hc39 => absurd hc39 (by decide)) (fun hc39 => ?_)
                  refine dk_bipush (pc' := 103) hE dX11_wordHere_101 (by decide) rfl ?_
                  exact dk_iret (st := []) hE hR dX11_wordHere_103 ⟨_, rfl, (fun k_ j_ h_ => rfl), by omega⟩
                · skip
                  refine dk_if_eq (tgt := 104) (pc' := 101) hE dX11_wordHere_98 (by decide) rfl (fun hc40 => ?_) (fun hc40 => absurd hc40 (by decide))
                  refine dk_aload_n (pc' := 105) hE dX11_wordHere_104 rfl rfl rfl ?_
                  refine dk_ldc2 (pc' := 108) hE dX11_wordHere_105 cs_X11_208 (by decide) rfl ?_
                  refine dk_cV (pc' := 111) (as := [(3, 6578553)]) hE lk_X11_281 (ct_X11_isWord l G hGd 6578553) dX11_wordHere_108 rfl is_141 rfl (by decide) (Nat.le_of_ble_eq_true rfl) rfl rfl (fun r42 σ41 hr42 hor42 => ?_)
                  obtain ⟨v43, rfl, hfσ41, hpr42⟩ := hr42
                  have hsσ41 : σ = σ41 := (funext (fun k => funext (fun j => hfσ41 k j not_false))).symm
                  subst hsσ41
                  rcases hpr42 with ⟨rfl, hpr42⟩ | rfl
                  · skip
                    refine dk_if_eq (tgt := 117) (pc' := 114) hE dX11_wordHere_111 (by decide) rfl (fun hc44 => absurd hc44 (by decide)) (fun hc44 => ?_)
                    refine dk_bipush (pc' := 116) hE dX11_wordHere_114 (by decide) rfl ?_
                    exact dk_iret (st := []) hE hR dX11_wordHere_116 ⟨_, rfl, (fun k_ j_ h_ => rfl), by omega⟩
                  · skip
                    refine dk_if_eq (tgt := 117) (pc' := 114) hE dX11_wordHere_111 (by decide) rfl (fun hc45 => ?_) (fun hc45 => absurd hc45 (by decide))
                    refine dk_aload_n (pc' := 118) hE dX11_wordHere_117 rfl rfl rfl ?_
                    refine dk_ldc2 (pc' := 121) hE dX11_wordHere_118 cs_X11_210 (by decide) rfl ?_
                    refine dk_cV (pc' := 124) (as := [(3, 109330362692723)]) hE lk_X11_281 (ct_X11_isWord l G hGd 109330362692723) dX11_wordHere_121 rfl is_141 rfl (by decide) (Nat.le_of_ble_eq_true rfl) rfl rfl (fun r47 σ46 hr47 hor47 => ?_)
                    obtain ⟨v48, rfl, hfσ46, hpr47⟩ := hr47
                    have hsσ46 : σ = σ46 := (funext (fun k => funext (fun j => hfσ46 k j not_false))).symm
                    subst hsσ46
                    rcases hpr47 with ⟨rfl, hpr47⟩ | rfl
                    · skip
                      refine dk_if_eq (tgt := 132) (pc' := 127) hE dX11_wordHere_124 (by decide) rfl (fun hc49 => absurd hc49 (by decide)) (fun hc49 => ?_)
                      refine dk_bipush (pc' := 129) hE dX11_wordHere_127 (by decide) rfl ?_
                      refine dk_goto (tgt := 133) hE dX11_wordHere_129 (by decide) ?_
                      exact dk_iret (st := []) hE hR dX11_wordHere_133 ⟨_, rfl, (fun k_ j_ h_ => rfl), by omega⟩
                    · skip
                      refine dk_if_eq (tgt := 132) (pc' := 127) hE dX11_wordHere_124 (by decide) rfl (fun hc50 => ?_) (fun hc50 => absurd hc50 (by decide))
                      refine dk_iconst (pc' := 133) hE dX11_wordHere_132 (by decide) rfl ?_
                      exact dk_iret (st := []) hE hR dX11_wordHere_133 ⟨_, rfl, (fun k_ j_ h_ => rfl), by omega⟩
set_option maxHeartbeats 4000000 in
set_option maxRecDepth 20000 in
theorem ct_X11_rankHere (l : Launch) (G : dkG) (hGd : dk_Gd G) : dk_Ct l G dk_Ty yX11_rankHere cX11_rankHere 1 (some .int) 3 190 190 (fun av σ => av = [(4, 141)]) (fun _ σ r_ σ' => ∃ z : Int, r_ = some (0, z) ∧ (∀ k_ j_ : Int, ¬ (False) → σ' k_ j_ = σ k_ j_) ∧ (0 ≤ z ∧ z ≤ 6 ∧ z ≠ 3 ∧ (1 ≤ z → σ 141 8 ≠ 0) ∧ (4 ≤ z → 42 ≤ tsg σ (σ 141 6) ∧ tsg σ (σ 141 6) ≤ 62))) := by
  refine dk_enter hGd (by decide) (fun av σ hpre hok => ?_)
  subst hpre
  refine ⟨Nat.le_of_ble_eq_true rfl, fun E hE hR _ => ?_⟩
  show dk_PJ E 0 [(4, 141)] [] 190 σ
  refine dk_aload_n (pc' := 1) hE dX11_rankHere_0 rfl rfl rfl ?_
  refine dk_ldc2 (pc' := 4) hE dX11_rankHere_1 cs_X11_190 (by decide) rfl ?_
  refine dk_cV (pc' := 7) (as := [(3, 6385252)]) hE lk_X11_281 (ct_X11_isWord l G hGd 6385252) dX11_rankHere_4 rfl is_141 rfl (by decide) (Nat.le_of_ble_eq_true rfl) rfl rfl (fun r2 σ1 hr2 hor2 => ?_)
  obtain ⟨v3, rfl, hfσ1, hpr2⟩ := hr2
  have hsσ1 : σ = σ1 := (funext (fun k => funext (fun j => hfσ1 k j not_false))).symm
  subst hsσ1
  rcases hpr2 with ⟨rfl, hpr2⟩ | rfl
  · skip
    refine dk_if_eq (tgt := 12) (pc' := 10) hE dX11_rankHere_7 (by decide) rfl (fun hc4 => absurd hc4 (by decide)) (fun hc4 => ?_)
    refine dk_iconst (pc' := 11) hE dX11_rankHere_10 (by decide) rfl ?_
    exact dk_iret (st := []) hE hR dX11_rankHere_11 ⟨_, rfl, (fun k_ j_ h_ => rfl), by omega⟩
  · skip
    refine dk_if_eq (tgt := 12) (pc' := 10) hE dX11_rankHere_7 (by decide) rfl (fun hc5 => ?_) (fun hc5 => absurd hc5 (by decide))
    refine dk_aload_n (pc' := 13) hE dX11_rankHere_12 rfl rfl rfl ?_
    refine dk_ldc2 (pc' := 16) hE dX11_rankHere_13 cs_X11_192 (by decide) rfl ?_
    refine dk_cV (pc' := 19) (as := [(3, 28530)]) hE lk_X11_281 (ct_X11_isWord l G hGd 28530) dX11_rankHere_16 rfl is_141 rfl (by decide) (Nat.le_of_ble_eq_true rfl) rfl rfl (fun r7 σ6 hr7 hor7 => ?_)
    obtain ⟨v8, rfl, hfσ6, hpr7⟩ := hr7
    have hsσ6 : σ = σ6 := (funext (fun k => funext (fun j => hfσ6 k j not_false))).symm
    subst hsσ6
    rcases hpr7 with ⟨rfl, hpr7⟩ | rfl
    · skip
      refine dk_if_eq (tgt := 24) (pc' := 22) hE dX11_rankHere_19 (by decide) rfl (fun hc9 => absurd hc9 (by decide)) (fun hc9 => ?_)
      refine dk_iconst (pc' := 23) hE dX11_rankHere_22 (by decide) rfl ?_
      exact dk_iret (st := []) hE hR dX11_rankHere_23 ⟨_, rfl, (fun k_ j_ h_ => rfl), by omega⟩
    · skip
      refine dk_if_eq (tgt := 24) (pc' := 22) hE dX11_rankHere_19 (by decide) rfl (fun hc10 => ?_) (fun hc10 => absurd hc10 (by decide))
      refine dk_aload_n (pc' := 25) hE dX11_rankHere_24 rfl rfl rfl ?_
      refine dk_bipush (pc' := 27) hE dX11_rankHere_25 (by decide) rfl ?_
      refine dk_cV (pc' := 30) (as := [(0, 60)]) hE lk_X11_298 (ct_X11_is l G hGd 60) dX11_rankHere_27 rfl is_141 rfl (by decide) (Nat.le_of_ble_eq_true rfl) rfl rfl (fun r12 σ11 hr12 hor12 => ?_)
      obtain ⟨v13, rfl, hfσ11, hpr12⟩ := hr12
      have hsσ11 : σ = σ11 := (funext (fun k => funext (fun j => hfσ11 k j not_false))).symm
      subst hsσ11
      rcases hpr12 with ⟨rfl, hpr12⟩ | rfl
      · skip
        refine dk_if_ne (tgt := 51) (pc' := 33) hE dX11_rankHere_30 (by decide) rfl (fun hc14 => ?_) (fun hc14 => absurd hc14 (by decide))
        refine dk_iconst (pc' := 52) hE dX11_rankHere_51 (by decide) rfl ?_
        exact dk_iret (st := []) hE hR dX11_rankHere_52 ⟨_, rfl, (fun k_ j_ h_ => rfl), by omega⟩
      · skip
        refine dk_if_ne (tgt := 51) (pc' := 33) hE dX11_rankHere_30 (by decide) rfl (fun hc15 => absurd hc15 (by decide)) (fun hc15 => ?_)
        refine dk_aload_n (pc' := 34) hE dX11_rankHere_33 rfl rfl rfl ?_
        refine dk_bipush (pc' := 36) hE dX11_rankHere_34 (by decide) rfl ?_
        refine dk_cV (pc' := 39) (as := [(0, 62)]) hE lk_X11_298 (ct_X11_is l G hGd 62) dX11_rankHere_36 rfl is_141 rfl (by decide) (Nat.le_of_ble_eq_true rfl) rfl rfl (fun r17 σ16 hr17 hor17 => ?_)
        obtain ⟨v18, rfl, hfσ16, hpr17⟩ := hr17
        have hsσ16 : σ = σ16 := (funext (fun k => funext (fun j => hfσ16 k j not_false))).symm
        subst hsσ16
        rcases hpr17 with ⟨rfl, hpr17⟩ | rfl
        · skip
          refine dk_if_ne (tgt := 51) (pc' := 42) hE dX11_rankHere_39 (by decide) rfl (fun hc19 => ?_) (fun hc19 => absurd hc19 (by decide))
          refine dk_iconst (pc' := 52) hE dX11_rankHere_51 (by decide) rfl ?_
          exact dk_iret (st := []) hE hR dX11_rankHere_52 ⟨_, rfl, (fun k_ j_ h_ => rfl), by omega⟩
        · skip
          refine dk_if_ne (tgt := 51) (pc' := 42) hE dX11_rankHere_39 (by decide) rfl (fun hc20 => absurd hc20 (by decide)) (fun hc20 => ?_)
          refine dk_aload_n (pc' := 43) hE dX11_rankHere_42 rfl rfl rfl ?_
          refine dk_bipush (pc' := 45) hE dX11_rankHere_43 (by decide) rfl ?_
          refine dk_cV (pc' := 48) (as := [(0, 61)]) hE lk_X11_298 (ct_X11_is l G hGd 61) dX11_rankHere_45 rfl is_141 rfl (by decide) (Nat.le_of_ble_eq_true rfl) rfl rfl (fun r22 σ21 hr22 hor22 => ?_)
          obtain ⟨v23, rfl, hfσ21, hpr22⟩ := hr22
          have hsσ21 : σ = σ21 := (funext (fun k => funext (fun j => hfσ21 k j not_false))).symm
          subst hsσ21
          rcases hpr22 with ⟨rfl, hpr22⟩ | rfl
          · skip
            refine dk_if_eq (tgt := 53) (pc' := 51) hE dX11_rankHere_48 (by decide) rfl (fun hc24 => absurd hc24 (by decide)) (fun hc24 => ?_)
            refine dk_iconst (pc' := 52) hE dX11_rankHere_51 (by decide) rfl ?_
            exact dk_iret (st := []) hE hR dX11_rankHere_52 ⟨_, rfl, (fun k_ j_ h_ => rfl), by omega⟩
          · skip
            refine dk_if_eq (tgt := 53) (pc' := 51) hE dX11_rankHere_48 (by decide) rfl (fun hc25 => ?_) (fun hc25 => absurd hc25 (by decide))
            refine dk_aload_n (pc' := 54) hE dX11_rankHere_53 rfl rfl rfl ?_
            refine dk_bipush (pc' := 56) hE dX11_rankHere_54 (by decide) rfl ?_
            refine dk_cV (pc' := 59) (as := [(0, 43)]) hE lk_X11_298 (ct_X11_is l G hGd 43) dX11_rankHere_56 rfl is_141 rfl (by decide) (Nat.le_of_ble_eq_true rfl) rfl rfl (fun r27 σ26 hr27 hor27 => ?_)
            obtain ⟨v28, rfl, hfσ26, hpr27⟩ := hr27
            have hsσ26 : σ = σ26 := (funext (fun k => funext (fun j => hfσ26 k j not_false))).symm
            subst hsσ26
            rcases hpr27 with ⟨rfl, hpr27⟩ | rfl
            · skip
              refine dk_if_ne (tgt := 71) (pc' := 62) hE dX11_rankHere_59 (by decide) rfl (fun hc29 => ?_) (fun hc29 => absurd hc29 (by decide))
              refine dk_iconst (pc' := 72) hE dX11_rankHere_71 (by decide) rfl ?_
              exact dk_iret (st := []) hE hR dX11_rankHere_72 ⟨_, rfl, (fun k_ j_ h_ => rfl), by omega⟩
            · skip
              refine dk_if_ne (tgt := 71) (pc' := 62) hE dX11_rankHere_59 (by decide) rfl (fun hc30 => absurd hc30 (by decide)) (fun hc30 => ?_)
              refine dk_aload_n (pc' := 63) hE dX11_rankHere_62 rfl rfl rfl ?_
              refine dk_bipush (pc' := 65) hE dX11_rankHere_63 (by decide) rfl ?_
              refine dk_cV (pc' := 68) (as := [(0, 45)]) hE lk_X11_298 (ct_X11_is l G hGd 45) dX11_rankHere_65 rfl is_141 rfl (by decide) (Nat.le_of_ble_eq_true rfl) rfl rfl (fun r32 σ31 hr32 hor32 => ?_)
              obtain ⟨v33, rfl, hfσ31, hpr32⟩ := hr32
              have hsσ31 : σ = σ31 := (funext (fun k => funext (fun j => hfσ31 k j not_false))).symm
              subst hsσ31
              rcases hpr32 with ⟨rfl, hpr32⟩ | rfl
              · skip
                refine dk_if_eq (tgt := 73) (pc' := 71) hE dX11_rankHere_68 (by decide) rfl (fun hc34 => absurd hc34 (by decide)) (fun hc34 => ?_)
                refine dk_iconst (pc' := 72) hE dX11_rankHere_71 (by decide) rfl ?_
                exact dk_iret (st := []) hE hR dX11_rankHere_72 ⟨_, rfl, (fun k_ j_ h_ => rfl), by omega⟩
              · skip
                refine dk_if_eq (tgt := 73) (pc' := 71) hE dX11_rankHere_68 (by decide) rfl (fun hc35 => ?_) (fun hc35 => absurd hc35 (by decide))
                refine dk_aload_n (pc' := 74) hE dX11_rankHere_73 rfl rfl rfl ?_
                refine dk_bipush (pc' := 76) hE dX11_rankHere_74 (by decide) rfl ?_
                refine dk_cV (pc' := 79) (as := [(0, 42)]) hE lk_X11_298 (ct_X11_is l G hGd 42) dX11_rankHere_76 rfl is_141 rfl (by decide) (Nat.le_of_ble_eq_true rfl) rfl rfl (fun r37 σ36 hr37 hor37 => ?_)
                obtain ⟨v38, rfl, hfσ36, hpr37⟩ := hr37
                have hsσ36 : σ = σ36 := (funext (fun k => funext (fun j => hfσ36 k j not_false))).symm
                subst hsσ36
                rcases hpr37 with ⟨rfl, hpr37⟩ | rfl
                · skip
                  refine dk_if_eq (tgt := 87) (pc' := 82) hE dX11_rankHere_79 (by decide) rfl (fun hc39 => absurd hc39 (by decide)) (fun hc39 => ?_)
                  refine dk_bipush (pc' := 84) hE dX11_rankHere_82 (by decide) rfl ?_
                  refine dk_goto (tgt := 88) hE dX11_rankHere_84 (by decide) ?_
                  exact dk_iret (st := []) hE hR dX11_rankHere_88 ⟨_, rfl, (fun k_ j_ h_ => rfl), by omega⟩
                · skip
                  refine dk_if_eq (tgt := 87) (pc' := 82) hE dX11_rankHere_79 (by decide) rfl (fun hc40 => ?_) (fun hc40 => absurd hc40 (by decide))
                  refine dk_iconst (pc' := 88) hE dX11_rankHere_87 (by decide) rfl ?_
                  exact dk_iret (st := []) hE hR dX11_rankHere_88 ⟨_, rfl, (fun k_ j_ h_ => rfl), by omega⟩
set_option maxHeartbeats 4000000 in
set_option maxRecDepth 20000 in
theorem ct_X11_isCompared (l : Launch) (G : dkG) (hGd : dk_Gd G) : dk_Ct l G dk_Ty yX11_isCompared cX11_isCompared 2 (some .boolean) 1 190 190 (fun av σ => av = [(4, 141)] ∧ (1 ≤ σ 141 45) ∧ (σ 166 0 = 8)) (fun _ σ r_ σ' => ∃ z : Int, r_ = some (0, z) ∧ (∀ k_ j_ : Int, ¬ (False) → σ' k_ j_ = σ k_ j_) ∧ (0 ≤ z ∧ z ≤ 1)) := by
  refine dk_enter hGd (by decide) (fun av σ hpre hok => ?_)
  obtain ⟨rfl, h1, h0⟩ := hpre
  refine ⟨Nat.le_of_ble_eq_true rfl, fun E hE hR _ => ?_⟩
  show dk_PJ E 0 [(4, 141), (9, 0)] [] 190 σ
  refine dk_aload_n (pc' := 1) hE dX11_isCompared_0 rfl rfl rfl ?_
  refine gf_11_45 (pc' := 4) hE fl_X11_389 dX11_isCompared_1 is_141 rfl (fun v1 hv1 htv1 hbv1 => ?_)
  refine dk_iconst (pc' := 5) hE dX11_isCompared_4 (by decide) rfl ?_
  obtain ⟨v2, hv2⟩ : ∃ z : Int, z = v1 - 1 := ⟨_, rfl⟩
  refine dk_isub (pc' := 6) hE dX11_isCompared_5 hv2.symm (by omega) rfl ?_
  refine dk_istore_n (pc' := 7) (ls' := [(4, 141), (0, v2)]) hE dX11_isCompared_6 rfl rfl (by decide) rfl ?_
  have lp7 : ∀ (N_ : Nat) (k : Int) (σ7c : dkS), (k).toNat < N_ → ((∀ k_ j_ : Int, ¬ (False) → σ7c k_ j_ = σ k_ j_)) → (0 ≤ k ∧ k ≤ 79) → dk_PJ E 7 [(4, 141), (0, k)] [] 190 σ7c := by
    intro N7
    induction N7 with
    | zero => intro k σ7c hm; exact absurd hm (Nat.not_lt_zero _)
    | succ N7 ih7 =>
      intro k σ7c hm7 hF7 hk
      refine dk_aload_n (pc' := 8) hE dX11_isCompared_7 rfl rfl rfl ?_
      refine gf_11_37 (pc' := 11) (w := 166) hE fl_X11_89 dX11_isCompared_8 is_141 rfl rfl ?_
      refine dk_iload_n (pc' := 12) hE dX11_isCompared_11 rfl rfl rfl ?_
      refine ga_94 (pc' := 13) hE dX11_isCompared_12 is_166 (by omega) rfl (fun v3 hv3 htv3 hbv3 => ?_)
      have hxv3 : k = 0 → v3 = 8 := fun e_ => by rw [hv3, e_, hF7 166 0 not_false]; exact h0
      refine dk_iconst (pc' := 14) hE dX11_isCompared_13 (by decide) rfl ?_
      refine dk_icmp_eq (tgt := 28) (pc' := 17) hE dX11_isCompared_14 (by decide) rfl (fun hc4 => ?_) (fun hc4 => ?_)
      · skip
        obtain ⟨v5, hv5⟩ : ∃ z : Int, z = k + (-1) := ⟨_, rfl⟩
        refine dk_iinc (pc' := 31) (ls' := [(4, 141), (0, v5)]) hE dX11_isCompared_28 rfl hv5.symm (by omega) rfl (by decide) rfl ?_
        refine dk_goto (tgt := 7) hE dX11_isCompared_31 (by decide) ?_
        exact ih7 v5 σ7c (by omega) (fun k_ j_ h_ => by rw [hF7 k_ j_ not_false]) (by omega)
      · skip
        refine dk_aload_n (pc' := 18) hE dX11_isCompared_17 rfl rfl rfl ?_
        refine gf_11_37 (pc' := 21) (w := 166) hE fl_X11_89 dX11_isCompared_18 is_141 rfl rfl ?_
        refine dk_iload_n (pc' := 22) hE dX11_isCompared_21 rfl rfl rfl ?_
        refine ga_94 (pc' := 23) hE dX11_isCompared_22 is_166 (by omega) rfl (fun v6 hv6 htv6 hbv6 => ?_)
        have hq6 : v3 = v6 := (show v6 = v3 by rw [hv6, hv3]).symm
        subst hq6
        clear htv6 hbv6
        refine dk_bipush (pc' := 25) hE dX11_isCompared_23 (by decide) rfl ?_
        refine dk_icmp_ne (tgt := 34) (pc' := 28) hE dX11_isCompared_25 (by decide) rfl (fun hc7 => ?_) (fun hc7 => ?_)
        · skip
          refine dk_aload_n (pc' := 35) hE dX11_isCompared_34 rfl rfl rfl ?_
          refine gf_11_37 (pc' := 38) (w := 166) hE fl_X11_89 dX11_isCompared_35 is_141 rfl rfl ?_
          refine dk_iload_n (pc' := 39) hE dX11_isCompared_38 rfl rfl rfl ?_
          refine ga_94 (pc' := 40) hE dX11_isCompared_39 is_166 (by omega) rfl (fun v8 hv8 htv8 hbv8 => ?_)
          have hq8 : v3 = v8 := (show v8 = v3 by rw [hv8, hv6]).symm
          subst hq8
          clear htv8 hbv8
          refine dk_iconst (pc' := 41) hE dX11_isCompared_40 (by decide) rfl ?_
          refine dk_icmp_ne (tgt := 48) (pc' := 44) hE dX11_isCompared_41 (by decide) rfl (fun hc9 => ?_) (fun hc9 => ?_)
          · skip
            refine dk_iconst (pc' := 49) hE dX11_isCompared_48 (by decide) rfl ?_
            exact dk_zret (st := []) hE hR dX11_isCompared_49 (by omega) ⟨_, rfl, (fun k_ j_ h_ => by rw [hF7 k_ j_ not_false]), by omega⟩
          · skip
            refine dk_iconst (pc' := 45) hE dX11_isCompared_44 (by decide) rfl ?_
            refine dk_goto (tgt := 49) hE dX11_isCompared_45 (by decide) ?_
            exact dk_zret (st := []) hE hR dX11_isCompared_49 (by omega) ⟨_, rfl, (fun k_ j_ h_ => by rw [hF7 k_ j_ not_false]), by omega⟩
        · skip
          obtain ⟨v10, hv10⟩ : ∃ z : Int, z = k + (-1) := ⟨_, rfl⟩
          refine dk_iinc (pc' := 31) (ls' := [(4, 141), (0, v10)]) hE dX11_isCompared_28 rfl hv10.symm (by omega) rfl (by decide) rfl ?_
          refine dk_goto (tgt := 7) hE dX11_isCompared_31 (by decide) ?_
          exact ih7 v10 σ7c (by omega) (fun k_ j_ h_ => by rw [hF7 k_ j_ not_false]) (by omega)
  exact lp7 _ v2 σ (Nat.lt_succ_self _) (fun k_ j_ h_ => rfl) (by omega)
set_option maxHeartbeats 4000000 in
set_option maxRecDepth 20000 in
theorem ct_X11_unit (l : Launch) (G : dkG) (hGd : dk_Gd G) (c r n p : Int) : dk_Ct l G dk_Ty yX11_unit cX11_unit 6 (some .boolean) 3 190 190 (fun av σ => av = [(4, 141)] ∧ (TK σ) ∧ (σ 141 3 ≤ 600) ∧ (PX 1 c r σ σ) ∧ (σ 141 4 = 0) ∧ (n = σ 141 42) ∧ (p = σ 141 45) ∧ (1 ≤ p)) (fun _ σ r_ σ' => ∃ z : Int, r_ = some (0, z) ∧ (∀ k_ j_ : Int, ¬ ((k_ = 141 ∧ j_ = 4) ∨ (k_ = 141 ∧ j_ = 5) ∨ (k_ = 141 ∧ j_ = 6) ∨ (k_ = 141 ∧ j_ = 7) ∨ (k_ = 141 ∧ j_ = 8) ∨ (k_ = 141 ∧ j_ = 9) ∨ (k_ = 141 ∧ j_ = 10) ∨ (k_ = 141 ∧ j_ = 42) ∨ (k_ = 141 ∧ j_ = 43) ∨ (k_ = 141 ∧ j_ = 44) ∨ (k_ = 141 ∧ j_ = 45) ∨ (164 ≤ k_ ∧ k_ ≤ 167)) → σ' k_ j_ = σ k_ j_) ∧ (PX z c r σ σ' ∧ (1 ≤ σ' 141 4 ∧ σ' 141 45 ≤ σ 141 45 ∨ σ 141 6 < σ' 141 6))) := by
  refine dk_enter hGd (by decide) (fun av σ hpre hok => ?_)
  obtain ⟨rfl, hT, hS, hP, h4, hn, hp0, hp1⟩ := hpre
  refine ⟨Nat.le_of_ble_eq_true rfl, fun E hE hR _ => ?_⟩
  show dk_PJ E 0 [(4, 141), (9, 0), (9, 0), (9, 0), (9, 0), (9, 0)] [] 190 σ
  have hq0 := PX_n hP
  have lp130 : ∀ (m x cc : Int) (σ130c : dkS), ((∀ k_ j_ : Int, ¬ (False) → σ130c k_ j_ = σ k_ j_)) → (0 ≤ m ∧ m ≤ 1 ∧ 0 ≤ x ∧ x ≤ 1 ∧ 0 ≤ cc ∧ cc ≤ 122 ∧ (cc ≠ 0 → 97 ≤ cc) ∧ σ 141 8 ≠ 0) → ((m = 0 → σ 141 43 ≠ 60) ∧ (m = 1 → σ 141 44 ≠ 7) ∧ (x = 1 → σ 141 44 ≠ 7)) → dk_PJ E 130 [(4, 141), (9, 0), (0, m), (0, x), (0, cc), (9, 0)] [] 190 σ130c := by
    intro m x cc σ130c hF130 hx hmx
    have hS130 : σ = σ130c := (funext (fun k => funext (fun j => hF130 k j not_false))).symm
    subst hS130
    refine dk_aload_n (pc' := 131) hE dX11_unit_130 rfl rfl rfl ?_
    refine dk_dup (pc' := 132) hE dX11_unit_131 (show (4 : Nat) ≠ 3 by decide) rfl ?_
    refine gf_11_43 (pc' := 135) hE fl_X11_380 dX11_unit_132 is_141 rfl (fun v1 hv1 htv1 hbv1 => ?_)
    refine dk_iload_n (pc' := 136) hE dX11_unit_135 rfl rfl rfl ?_
    refine dk_if_eq (tgt := 143) (pc' := 139) hE dX11_unit_136 (by decide) rfl (fun hc2 => ?_) (fun hc2 => ?_)
    · skip
      refine dk_iconst (pc' := 144) hE dX11_unit_143 (by decide) rfl ?_
      obtain ⟨v3, hv3⟩ : ∃ z : Int, z = v1 + 1 := ⟨_, rfl⟩
      refine dk_iadd (pc' := 145) hE dX11_unit_144 hv3.symm (by omega) rfl ?_
      refine pf_11_43 (pc' := 148) hE fl_X11_380 dX11_unit_145 is_141 (by omega) rfl (fun σ4 eσ4 => ?_)
      refine dk_iload (pc' := 150) hE dX11_unit_148 rfl rfl ?_
      refine dk_if_ne (tgt := 160) (pc' := 153) hE dX11_unit_150 (by decide) rfl (fun hc5 => ?_) (fun hc5 => ?_)
      · skip
        refine dk_iconst (pc' := 161) hE dX11_unit_160 (by decide) rfl ?_
        refine dk_istore (pc' := 163) (ls' := [(4, 141), (9, 0), (0, m), (0, x), (0, cc), (0, 0)]) hE dX11_unit_161 rfl (by decide) rfl ?_
        refine dk_aload_n (pc' := 164) hE dX11_unit_163 rfl rfl rfl ?_
        have hz6 : σ4 141 7 = σ 141 7 := by rw [eσ4, dk_up_n (show ¬ (141 = 141 ∧ 7 = 43) by omega)]
        have hz7 : σ4 141 3 = σ 141 3 := by rw [eσ4, dk_up_n (show ¬ (141 = 141 ∧ 3 = 43) by omega)]
        have gi8 : NX σ σ4 := NX_fr (NX_rf hT) (fun k_ j_ h_ => by rw [eσ4, dk_up_n (show ¬ (k_ = 141 ∧ j_ = 43) by omega)])
        have hz9 : σ4 141 3 = σ 141 3 := by rw [eσ4, dk_up_n (show ¬ (141 = 141 ∧ 3 = 43) by omega)]
        refine dk_cV (pc' := 167) (as := []) hE lk_X11_254 (ct_X11_next l G hGd) dX11_unit_164 rfl is_141 rfl (by decide) (Nat.le_of_ble_eq_true rfl) ⟨rfl, ((NX_tk gi8).2.1), (by omega)⟩ rfl (fun r11 σ10 hr11 hor11 => ?_)
        obtain ⟨rfl, hfσ10, hpr11⟩ := hr11
        have H164 := hpr11
        have gi12 : NX σ σ10 := NX_y gi8 hpr11
        have hy_ := H164.2.2.1
        have ht_ := hT.2.2 (by omega)
        refine dk_iload_n (pc' := 168) hE dX11_unit_167 rfl rfl rfl ?_
        refine dk_if_ne (tgt := 175) (pc' := 171) hE dX11_unit_168 (by decide) rfl (fun hc13 => ?_) (fun hc13 => ?_)
        · skip
          refine dk_aload_n (pc' := 176) hE dX11_unit_175 rfl rfl rfl ?_
          refine dk_iload_n (pc' := 177) hE dX11_unit_176 rfl rfl rfl ?_
          refine dk_if_eq (tgt := 184) (pc' := 180) hE dX11_unit_177 (by decide) rfl (fun hc14 => ?_) (fun hc14 => ?_)
          · skip
            refine dk_bipush (pc' := 186) hE dX11_unit_184 (by decide) rfl ?_
            refine dk_bipush (pc' := 188) hE dX11_unit_186 (by decide) rfl ?_
            have hz15 : σ10 141 45 = p := by rw [hfσ10 141 45 (by omega), eσ4, dk_up_n (show ¬ (141 = 141 ∧ 45 = 43) by omega), hp0]
            refine dk_cV (pc' := 191) (as := [(0, 7), (0, 126)]) hE lk_X11_395 (ct_X11_put l G hGd 7 126 p) dX11_unit_188 rfl is_141 rfl (by decide) (Nat.le_of_ble_eq_true rfl) ⟨rfl, (by omega), (by omega)⟩ rfl (fun r17 σ16 hr17 hor17 => ?_)
            obtain ⟨rfl, hfσ16, hpr17⟩ := hr17
            have H188 := hpr17
            refine dk_aload_n (pc' := 192) hE dX11_unit_191 rfl rfl rfl ?_
            refine dk_dup (pc' := 193) hE dX11_unit_192 (show (4 : Nat) ≠ 3 by decide) rfl ?_
            refine gf_11_44 (pc' := 196) hE fl_X11_392 dX11_unit_193 is_141 rfl (fun v18 hv18 htv18 hbv18 => ?_)
            have hq18 : v18 = σ 141 44 := by rw [hv18, hfσ16 141 44 (by omega), hfσ10 141 44 (by omega), eσ4, dk_up_n (show ¬ (141 = 141 ∧ 44 = 43) by omega)]
            refine dk_iconst (pc' := 197) hE dX11_unit_196 (by decide) rfl ?_
            obtain ⟨v19, hv19⟩ : ∃ z : Int, z = v18 + 1 := ⟨_, rfl⟩
            refine dk_iadd (pc' := 198) hE dX11_unit_197 hv19.symm (by omega) rfl ?_
            refine pf_11_44 (pc' := 201) hE fl_X11_392 dX11_unit_198 is_141 trivial rfl (fun σ20 eσ20 => ?_)
            refine dk_iconst (pc' := 202) hE dX11_unit_201 (by decide) rfl ?_
            have hz21 : σ20 141 42 = n := by rw [eσ20, dk_up_n (show ¬ (141 = 141 ∧ 42 = 44) by omega), hfσ16 141 42 (by omega), hfσ10 141 42 (by omega), eσ4, dk_up_n (show ¬ (141 = 141 ∧ 42 = 43) by omega), hn]
            have hz22 : σ20 141 43 = v3 := by rw [eσ20, dk_up_n (show ¬ (141 = 141 ∧ 43 = 44) by omega), hfσ16 141 43 (by omega), hfσ10 141 43 (by omega), eσ4, dk_up_s]
            have hz23 : σ20 141 44 = v19 := by rw [eσ20, dk_up_s]
            have hz24 : σ20 141 45 = p + 1 := by rw [eσ20, dk_up_n (show ¬ (141 = 141 ∧ 45 = 44) by omega), (hpr17.2.2).symm]
            have hz25 : σ20 141 6 = (σ10 141 6) := by rw [eσ20, dk_up_n (show ¬ (141 = 141 ∧ 6 = 44) by omega), hfσ16 141 6 (by omega)]
            have hz26 : σ20 141 4 = σ 141 4 := by rw [eσ20, dk_up_n (show ¬ (141 = 141 ∧ 4 = 44) by omega), hfσ16 141 4 (by omega), hfσ10 141 4 (by omega), eσ4, dk_up_n (show ¬ (141 = 141 ∧ 4 = 43) by omega)]
            have hz27 : σ20 166 p = 7 := by rw [eσ20, dk_up_n (show ¬ (166 = 141 ∧ p = 44) by omega), (hpr17.1).symm]
            have hz28 : σ20 167 p = 126 := by rw [eσ20, dk_up_n (show ¬ (167 = 141 ∧ p = 44) by omega), (hpr17.2.1).symm]
            have hz29 : σ20 164 (600 * r + n) = σ 164 (600 * r + n) := by rw [eσ20, dk_up_n (show ¬ (164 = 141 ∧ (600 * r + n) = 44) by omega), hfσ16 164 (600 * r + n) (by omega), hfσ10 164 (600 * r + n) (by omega), eσ4, dk_up_n (show ¬ (164 = 141 ∧ (600 * r + n) = 43) by omega)]
            have gi30 : NX σ σ20 := NX_fr gi12 (fun k_ j_ h_ => by rw [eσ20, dk_up_n (show ¬ (k_ = 141 ∧ j_ = 44) by omega), hfσ16 k_ j_ (by omega)])
            exact dk_zret (st := []) hE hR dX11_unit_202 (by omega) ⟨_, rfl, (fun k_ j_ h_ => by rw [eσ20, dk_up_n (show ¬ (k_ = 141 ∧ j_ = 44) from fun q_ => h_ (Or.inr (Or.inr (Or.inr (Or.inr (Or.inr (Or.inr (Or.inr (Or.inr (Or.inr (Or.inl (q_)))))))))))), hfσ16 k_ j_ (fun w_ => h_ (w_.elim (fun x0_ => Or.inr (Or.inr (Or.inr (Or.inr (Or.inr (Or.inr (Or.inr (Or.inr (Or.inr (Or.inr (Or.inr (dk_wr (lo := 164) (hi := 167) x0_.1 (by decide))))))))))))) (fun y0_ => y0_.elim (fun x1_ => Or.inr (Or.inr (Or.inr (Or.inr (Or.inr (Or.inr (Or.inr (Or.inr (Or.inr (Or.inr (Or.inr (dk_wr (lo := 164) (hi := 167) x1_.1 (by decide))))))))))))) (fun y1_ => Or.inr (Or.inr (Or.inr (Or.inr (Or.inr (Or.inr (Or.inr (Or.inr (Or.inr (Or.inr (Or.inl (y1_))))))))))))))), hfσ10 k_ j_ (fun w_ => h_ (w_.elim (fun x0_ => Or.inr (Or.inr (Or.inl (x0_)))) (fun y0_ => y0_.elim (fun x1_ => Or.inr (Or.inr (Or.inr (Or.inl (x1_))))) (fun y1_ => y1_.elim (fun x2_ => Or.inr (Or.inr (Or.inr (Or.inr (Or.inl (x2_)))))) (fun y2_ => y2_.elim (fun x3_ => Or.inr (Or.inr (Or.inr (Or.inr (Or.inr (Or.inl (x3_))))))) (fun y3_ => Or.inr (Or.inr (Or.inr (Or.inr (Or.inr (Or.inr (Or.inl (y3_))))))))))))), eσ4, dk_up_n (show ¬ (k_ = 141 ∧ j_ = 43) from fun q_ => h_ (Or.inr (Or.inr (Or.inr (Or.inr (Or.inr (Or.inr (Or.inr (Or.inr (Or.inl (q_)))))))))))]), ⟨PX_put hP gi30 hn.symm hp0.symm hp1 (fun k_ j_ h_ => by rw [eσ20, dk_up_n (show ¬ (k_ = 141 ∧ j_ = 44) by omega), hfσ16 k_ j_ (by omega), hfσ10 k_ j_ (by omega), eσ4, dk_up_n (show ¬ (k_ = 141 ∧ j_ = 43) by omega)]) (fun j_ => by rw [eσ20, dk_up_n (show ¬ (164 = 141 ∧ j_ = 44) by omega), hfσ16 164 j_ (by omega), hfσ10 164 j_ (by omega), eσ4, dk_up_n (show ¬ (164 = 141 ∧ j_ = 43) by omega)]) (by omega) (by omega) (by omega) (by omega) (by omega) (by omega) (by omega) rfl (Or.inl (by omega)), Or.inr (by omega)⟩⟩
          · skip
            refine dk_iconst (pc' := 181) hE dX11_unit_180 (by decide) rfl ?_
            refine dk_goto (tgt := 186) hE dX11_unit_181 (by decide) ?_
            refine dk_bipush (pc' := 188) hE dX11_unit_186 (by decide) rfl ?_
            have hz31 : σ10 141 45 = p := by rw [hfσ10 141 45 (by omega), eσ4, dk_up_n (show ¬ (141 = 141 ∧ 45 = 43) by omega), hp0]
            refine dk_cV (pc' := 191) (as := [(0, 3), (0, 126)]) hE lk_X11_395 (ct_X11_put l G hGd 3 126 p) dX11_unit_188 rfl is_141 rfl (by decide) (Nat.le_of_ble_eq_true rfl) ⟨rfl, (by omega), (by omega)⟩ rfl (fun r33 σ32 hr33 hor33 => ?_)
            obtain ⟨rfl, hfσ32, hpr33⟩ := hr33
            have H188 := hpr33
            refine dk_aload_n (pc' := 192) hE dX11_unit_191 rfl rfl rfl ?_
            refine dk_dup (pc' := 193) hE dX11_unit_192 (show (4 : Nat) ≠ 3 by decide) rfl ?_
            refine gf_11_44 (pc' := 196) hE fl_X11_392 dX11_unit_193 is_141 rfl (fun v34 hv34 htv34 hbv34 => ?_)
            have hq34 : v34 = σ 141 44 := by rw [hv34, hfσ32 141 44 (by omega), hfσ10 141 44 (by omega), eσ4, dk_up_n (show ¬ (141 = 141 ∧ 44 = 43) by omega)]
            refine dk_iconst (pc' := 197) hE dX11_unit_196 (by decide) rfl ?_
            obtain ⟨v35, hv35⟩ : ∃ z : Int, z = v34 + 1 := ⟨_, rfl⟩
            refine dk_iadd (pc' := 198) hE dX11_unit_197 hv35.symm (by omega) rfl ?_
            refine pf_11_44 (pc' := 201) hE fl_X11_392 dX11_unit_198 is_141 trivial rfl (fun σ36 eσ36 => ?_)
            refine dk_iconst (pc' := 202) hE dX11_unit_201 (by decide) rfl ?_
            have hz37 : σ36 141 42 = n := by rw [eσ36, dk_up_n (show ¬ (141 = 141 ∧ 42 = 44) by omega), hfσ32 141 42 (by omega), hfσ10 141 42 (by omega), eσ4, dk_up_n (show ¬ (141 = 141 ∧ 42 = 43) by omega), hn]
            have hz38 : σ36 141 43 = v3 := by rw [eσ36, dk_up_n (show ¬ (141 = 141 ∧ 43 = 44) by omega), hfσ32 141 43 (by omega), hfσ10 141 43 (by omega), eσ4, dk_up_s]
            have hz39 : σ36 141 44 = v35 := by rw [eσ36, dk_up_s]
            have hz40 : σ36 141 45 = p + 1 := by rw [eσ36, dk_up_n (show ¬ (141 = 141 ∧ 45 = 44) by omega), (hpr33.2.2).symm]
            have hz41 : σ36 141 6 = (σ10 141 6) := by rw [eσ36, dk_up_n (show ¬ (141 = 141 ∧ 6 = 44) by omega), hfσ32 141 6 (by omega)]
            have hz42 : σ36 141 4 = σ 141 4 := by rw [eσ36, dk_up_n (show ¬ (141 = 141 ∧ 4 = 44) by omega), hfσ32 141 4 (by omega), hfσ10 141 4 (by omega), eσ4, dk_up_n (show ¬ (141 = 141 ∧ 4 = 43) by omega)]
            have hz43 : σ36 166 p = 3 := by rw [eσ36, dk_up_n (show ¬ (166 = 141 ∧ p = 44) by omega), (hpr33.1).symm]
            have hz44 : σ36 167 p = 126 := by rw [eσ36, dk_up_n (show ¬ (167 = 141 ∧ p = 44) by omega), (hpr33.2.1).symm]
            have hz45 : σ36 164 (600 * r + n) = σ 164 (600 * r + n) := by rw [eσ36, dk_up_n (show ¬ (164 = 141 ∧ (600 * r + n) = 44) by omega), hfσ32 164 (600 * r + n) (by omega), hfσ10 164 (600 * r + n) (by omega), eσ4, dk_up_n (show ¬ (164 = 141 ∧ (600 * r + n) = 43) by omega)]
            have gi46 : NX σ σ36 := NX_fr gi12 (fun k_ j_ h_ => by rw [eσ36, dk_up_n (show ¬ (k_ = 141 ∧ j_ = 44) by omega), hfσ32 k_ j_ (by omega)])
            exact dk_zret (st := []) hE hR dX11_unit_202 (by omega) ⟨_, rfl, (fun k_ j_ h_ => by rw [eσ36, dk_up_n (show ¬ (k_ = 141 ∧ j_ = 44) from fun q_ => h_ (Or.inr (Or.inr (Or.inr (Or.inr (Or.inr (Or.inr (Or.inr (Or.inr (Or.inr (Or.inl (q_)))))))))))), hfσ32 k_ j_ (fun w_ => h_ (w_.elim (fun x0_ => Or.inr (Or.inr (Or.inr (Or.inr (Or.inr (Or.inr (Or.inr (Or.inr (Or.inr (Or.inr (Or.inr (dk_wr (lo := 164) (hi := 167) x0_.1 (by decide))))))))))))) (fun y0_ => y0_.elim (fun x1_ => Or.inr (Or.inr (Or.inr (Or.inr (Or.inr (Or.inr (Or.inr (Or.inr (Or.inr (Or.inr (Or.inr (dk_wr (lo := 164) (hi := 167) x1_.1 (by decide))))))))))))) (fun y1_ => Or.inr (Or.inr (Or.inr (Or.inr (Or.inr (Or.inr (Or.inr (Or.inr (Or.inr (Or.inr (Or.inl (y1_))))))))))))))), hfσ10 k_ j_ (fun w_ => h_ (w_.elim (fun x0_ => Or.inr (Or.inr (Or.inl (x0_)))) (fun y0_ => y0_.elim (fun x1_ => Or.inr (Or.inr (Or.inr (Or.inl (x1_))))) (fun y1_ => y1_.elim (fun x2_ => Or.inr (Or.inr (Or.inr (Or.inr (Or.inl (x2_)))))) (fun y2_ => y2_.elim (fun x3_ => Or.inr (Or.inr (Or.inr (Or.inr (Or.inr (Or.inl (x3_))))))) (fun y3_ => Or.inr (Or.inr (Or.inr (Or.inr (Or.inr (Or.inr (Or.inl (y3_))))))))))))), eσ4, dk_up_n (show ¬ (k_ = 141 ∧ j_ = 43) from fun q_ => h_ (Or.inr (Or.inr (Or.inr (Or.inr (Or.inr (Or.inr (Or.inr (Or.inr (Or.inl (q_)))))))))))]), ⟨PX_put hP gi46 hn.symm hp0.symm hp1 (fun k_ j_ h_ => by rw [eσ36, dk_up_n (show ¬ (k_ = 141 ∧ j_ = 44) by omega), hfσ32 k_ j_ (by omega), hfσ10 k_ j_ (by omega), eσ4, dk_up_n (show ¬ (k_ = 141 ∧ j_ = 43) by omega)]) (fun j_ => by rw [eσ36, dk_up_n (show ¬ (164 = 141 ∧ j_ = 44) by omega), hfσ32 164 j_ (by omega), hfσ10 164 j_ (by omega), eσ4, dk_up_n (show ¬ (164 = 141 ∧ j_ = 43) by omega)]) (by omega) (by omega) (by omega) (by omega) (by omega) (by omega) (by omega) rfl (Or.inl (by omega)), Or.inr (by omega)⟩⟩
        · skip
          refine dk_iload_n (pc' := 172) hE dX11_unit_171 rfl rfl rfl ?_
          refine dk_if_eq (tgt := 203) (pc' := 175) hE dX11_unit_172 (by decide) rfl (fun hc47 => ?_) (fun hc47 => ?_)
          · skip
            refine dk_aload_n (pc' := 204) hE dX11_unit_203 rfl rfl rfl ?_
            refine dk_iload (pc' := 206) hE dX11_unit_204 rfl rfl ?_
            refine dk_if_ne (tgt := 214) (pc' := 209) hE dX11_unit_206 (by decide) rfl (fun hc48 => ?_) (fun hc48 => ?_)
            · skip
              refine dk_iload (pc' := 216) hE dX11_unit_214 rfl rfl ?_
              refine dk_iload (pc' := 218) hE dX11_unit_216 rfl rfl ?_
              have hz49 : σ10 141 41 = σ 141 41 := by rw [hfσ10 141 41 (by omega), eσ4, dk_up_n (show ¬ (141 = 141 ∧ 41 = 43) by omega)]
              have hz50 : σ10 141 42 = n := by rw [hfσ10 141 42 (by omega), eσ4, dk_up_n (show ¬ (141 = 141 ∧ 42 = 43) by omega), hn]
              refine dk_cV (pc' := 221) (as := [(0, cc), (0, 0)]) hE lk_X11_407 (ct_X11_sign0 l G hGd cc 0 r n (600 * r + n)) dX11_unit_218 rfl is_141 rfl (by decide) (Nat.le_of_ble_eq_true rfl) ⟨rfl, (by omega), (by omega), (by omega), (by omega), (by omega)⟩ rfl (fun r52 σ51 hr52 hor52 => ?_)
              obtain ⟨rfl, hfσ51, hpr52⟩ := hr52
              have H218 := hpr52
              refine dk_iconst (pc' := 222) hE dX11_unit_221 (by decide) rfl ?_
              have hz53 : σ51 141 42 = n + 1 := by rw [(hpr52.2).symm]
              have hz54 : σ51 141 43 = v3 := by rw [hfσ51 141 43 (by omega), hfσ10 141 43 (by omega), eσ4, dk_up_s]
              have hz55 : σ51 141 44 = σ 141 44 := by rw [hfσ51 141 44 (by omega), hfσ10 141 44 (by omega), eσ4, dk_up_n (show ¬ (141 = 141 ∧ 44 = 43) by omega)]
              have hz56 : σ51 141 45 = p := by rw [hfσ51 141 45 (by omega), hfσ10 141 45 (by omega), eσ4, dk_up_n (show ¬ (141 = 141 ∧ 45 = 43) by omega), hp0]
              have hz57 : σ51 141 6 = (σ10 141 6) := by rw [hfσ51 141 6 (by omega)]
              have hz58 : σ51 141 4 = σ 141 4 := by rw [hfσ51 141 4 (by omega), hfσ10 141 4 (by omega), eσ4, dk_up_n (show ¬ (141 = 141 ∧ 4 = 43) by omega)]
              have hz59 : σ51 166 p = σ 166 p := by rw [hfσ51 166 p (by omega), hfσ10 166 p (by omega), eσ4, dk_up_n (show ¬ (166 = 141 ∧ p = 43) by omega)]
              have hz60 : σ51 167 p = σ 167 p := by rw [hfσ51 167 p (by omega), hfσ10 167 p (by omega), eσ4, dk_up_n (show ¬ (167 = 141 ∧ p = 43) by omega)]
              have hz61 : σ51 164 (600 * r + n) = cc := by rw [(hpr52.1).symm]
              have gi62 : NX σ σ51 := NX_fr gi12 (fun k_ j_ h_ => by rw [hfσ51 k_ j_ (by omega)])
              exact dk_zret (st := []) hE hR dX11_unit_222 (by omega) ⟨_, rfl, (fun k_ j_ h_ => by rw [hfσ51 k_ j_ (fun w_ => h_ (w_.elim (fun x0_ => Or.inr (Or.inr (Or.inr (Or.inr (Or.inr (Or.inr (Or.inr (Or.inr (Or.inr (Or.inr (Or.inr (dk_wr (lo := 164) (hi := 167) x0_.1 (by decide))))))))))))) (fun y0_ => y0_.elim (fun x1_ => Or.inr (Or.inr (Or.inr (Or.inr (Or.inr (Or.inr (Or.inr (Or.inr (Or.inr (Or.inr (Or.inr (dk_wr (lo := 164) (hi := 167) x1_.1 (by decide))))))))))))) (fun y1_ => Or.inr (Or.inr (Or.inr (Or.inr (Or.inr (Or.inr (Or.inr (Or.inl (y1_)))))))))))), hfσ10 k_ j_ (fun w_ => h_ (w_.elim (fun x0_ => Or.inr (Or.inr (Or.inl (x0_)))) (fun y0_ => y0_.elim (fun x1_ => Or.inr (Or.inr (Or.inr (Or.inl (x1_))))) (fun y1_ => y1_.elim (fun x2_ => Or.inr (Or.inr (Or.inr (Or.inr (Or.inl (x2_)))))) (fun y2_ => y2_.elim (fun x3_ => Or.inr (Or.inr (Or.inr (Or.inr (Or.inr (Or.inl (x3_))))))) (fun y3_ => Or.inr (Or.inr (Or.inr (Or.inr (Or.inr (Or.inr (Or.inl (y3_))))))))))))), eσ4, dk_up_n (show ¬ (k_ = 141 ∧ j_ = 43) from fun q_ => h_ (Or.inr (Or.inr (Or.inr (Or.inr (Or.inr (Or.inr (Or.inr (Or.inr (Or.inl (q_)))))))))))]), ⟨PX_op hP gi62 hn.symm hp0.symm hp1 (fun k_ j_ h_ => by rw [hfσ51 k_ j_ (by omega), hfσ10 k_ j_ (by omega), eσ4, dk_up_n (show ¬ (k_ = 141 ∧ j_ = 43) by omega)]) (fun j_ => by rw [hfσ51 166 j_ (by omega), hfσ10 166 j_ (by omega), eσ4, dk_up_n (show ¬ (166 = 141 ∧ j_ = 43) by omega)]) (fun j_ => by rw [hfσ51 167 j_ (by omega), hfσ10 167 j_ (by omega), eσ4, dk_up_n (show ¬ (167 = 141 ∧ j_ = 43) by omega)]) (by omega) (by omega) (by omega) (by omega) (by omega) (by omega) (by omega) (by omega), Or.inr (by omega)⟩⟩
            · skip
              refine dk_bipush (pc' := 211) hE dX11_unit_209 (by decide) rfl ?_
              refine dk_goto (tgt := 216) hE dX11_unit_211 (by decide) ?_
              refine dk_iload (pc' := 218) hE dX11_unit_216 rfl rfl ?_
              have hz63 : σ10 141 41 = σ 141 41 := by rw [hfσ10 141 41 (by omega), eσ4, dk_up_n (show ¬ (141 = 141 ∧ 41 = 43) by omega)]
              have hz64 : σ10 141 42 = n := by rw [hfσ10 141 42 (by omega), eσ4, dk_up_n (show ¬ (141 = 141 ∧ 42 = 43) by omega), hn]
              refine dk_cV (pc' := 221) (as := [(0, 110), (0, 0)]) hE lk_X11_407 (ct_X11_sign0 l G hGd 110 0 r n (600 * r + n)) dX11_unit_218 rfl is_141 rfl (by decide) (Nat.le_of_ble_eq_true rfl) ⟨rfl, (by omega), (by omega), (by omega), (by omega), (by omega)⟩ rfl (fun r66 σ65 hr66 hor66 => ?_)
              obtain ⟨rfl, hfσ65, hpr66⟩ := hr66
              have H218 := hpr66
              refine dk_iconst (pc' := 222) hE dX11_unit_221 (by decide) rfl ?_
              have hz67 : σ65 141 42 = n + 1 := by rw [(hpr66.2).symm]
              have hz68 : σ65 141 43 = v3 := by rw [hfσ65 141 43 (by omega), hfσ10 141 43 (by omega), eσ4, dk_up_s]
              have hz69 : σ65 141 44 = σ 141 44 := by rw [hfσ65 141 44 (by omega), hfσ10 141 44 (by omega), eσ4, dk_up_n (show ¬ (141 = 141 ∧ 44 = 43) by omega)]
              have hz70 : σ65 141 45 = p := by rw [hfσ65 141 45 (by omega), hfσ10 141 45 (by omega), eσ4, dk_up_n (show ¬ (141 = 141 ∧ 45 = 43) by omega), hp0]
              have hz71 : σ65 141 6 = (σ10 141 6) := by rw [hfσ65 141 6 (by omega)]
              have hz72 : σ65 141 4 = σ 141 4 := by rw [hfσ65 141 4 (by omega), hfσ10 141 4 (by omega), eσ4, dk_up_n (show ¬ (141 = 141 ∧ 4 = 43) by omega)]
              have hz73 : σ65 166 p = σ 166 p := by rw [hfσ65 166 p (by omega), hfσ10 166 p (by omega), eσ4, dk_up_n (show ¬ (166 = 141 ∧ p = 43) by omega)]
              have hz74 : σ65 167 p = σ 167 p := by rw [hfσ65 167 p (by omega), hfσ10 167 p (by omega), eσ4, dk_up_n (show ¬ (167 = 141 ∧ p = 43) by omega)]
              have hz75 : σ65 164 (600 * r + n) = 110 := by rw [(hpr66.1).symm]
              have gi76 : NX σ σ65 := NX_fr gi12 (fun k_ j_ h_ => by rw [hfσ65 k_ j_ (by omega)])
              exact dk_zret (st := []) hE hR dX11_unit_222 (by omega) ⟨_, rfl, (fun k_ j_ h_ => by rw [hfσ65 k_ j_ (fun w_ => h_ (w_.elim (fun x0_ => Or.inr (Or.inr (Or.inr (Or.inr (Or.inr (Or.inr (Or.inr (Or.inr (Or.inr (Or.inr (Or.inr (dk_wr (lo := 164) (hi := 167) x0_.1 (by decide))))))))))))) (fun y0_ => y0_.elim (fun x1_ => Or.inr (Or.inr (Or.inr (Or.inr (Or.inr (Or.inr (Or.inr (Or.inr (Or.inr (Or.inr (Or.inr (dk_wr (lo := 164) (hi := 167) x1_.1 (by decide))))))))))))) (fun y1_ => Or.inr (Or.inr (Or.inr (Or.inr (Or.inr (Or.inr (Or.inr (Or.inl (y1_)))))))))))), hfσ10 k_ j_ (fun w_ => h_ (w_.elim (fun x0_ => Or.inr (Or.inr (Or.inl (x0_)))) (fun y0_ => y0_.elim (fun x1_ => Or.inr (Or.inr (Or.inr (Or.inl (x1_))))) (fun y1_ => y1_.elim (fun x2_ => Or.inr (Or.inr (Or.inr (Or.inr (Or.inl (x2_)))))) (fun y2_ => y2_.elim (fun x3_ => Or.inr (Or.inr (Or.inr (Or.inr (Or.inr (Or.inl (x3_))))))) (fun y3_ => Or.inr (Or.inr (Or.inr (Or.inr (Or.inr (Or.inr (Or.inl (y3_))))))))))))), eσ4, dk_up_n (show ¬ (k_ = 141 ∧ j_ = 43) from fun q_ => h_ (Or.inr (Or.inr (Or.inr (Or.inr (Or.inr (Or.inr (Or.inr (Or.inr (Or.inl (q_)))))))))))]), ⟨PX_op hP gi76 hn.symm hp0.symm hp1 (fun k_ j_ h_ => by rw [hfσ65 k_ j_ (by omega), hfσ10 k_ j_ (by omega), eσ4, dk_up_n (show ¬ (k_ = 141 ∧ j_ = 43) by omega)]) (fun j_ => by rw [hfσ65 166 j_ (by omega), hfσ10 166 j_ (by omega), eσ4, dk_up_n (show ¬ (166 = 141 ∧ j_ = 43) by omega)]) (fun j_ => by rw [hfσ65 167 j_ (by omega), hfσ10 167 j_ (by omega), eσ4, dk_up_n (show ¬ (167 = 141 ∧ j_ = 43) by omega)]) (by omega) (by omega) (by omega) (by omega) (by omega) (by omega) (by omega) (by omega), Or.inr (by omega)⟩⟩
          · skip
            refine dk_aload_n (pc' := 176) hE dX11_unit_175 rfl rfl rfl ?_
            refine dk_iload_n (pc' := 177) hE dX11_unit_176 rfl rfl rfl ?_
            refine dk_if_eq (tgt := 184) (pc' := 180) hE dX11_unit_177 (by decide) rfl (fun hc77 => ?_) (fun hc77 => ?_)
            · skip
              refine dk_bipush (pc' := 186) hE dX11_unit_184 (by decide) rfl ?_
              refine dk_bipush (pc' := 188) hE dX11_unit_186 (by decide) rfl ?_
              have hz78 : σ10 141 45 = p := by rw [hfσ10 141 45 (by omega), eσ4, dk_up_n (show ¬ (141 = 141 ∧ 45 = 43) by omega), hp0]
              refine dk_cV (pc' := 191) (as := [(0, 7), (0, 126)]) hE lk_X11_395 (ct_X11_put l G hGd 7 126 p) dX11_unit_188 rfl is_141 rfl (by decide) (Nat.le_of_ble_eq_true rfl) ⟨rfl, (by omega), (by omega)⟩ rfl (fun r80 σ79 hr80 hor80 => ?_)
              obtain ⟨rfl, hfσ79, hpr80⟩ := hr80
              have H188 := hpr80
              refine dk_aload_n (pc' := 192) hE dX11_unit_191 rfl rfl rfl ?_
              refine dk_dup (pc' := 193) hE dX11_unit_192 (show (4 : Nat) ≠ 3 by decide) rfl ?_
              refine gf_11_44 (pc' := 196) hE fl_X11_392 dX11_unit_193 is_141 rfl (fun v81 hv81 htv81 hbv81 => ?_)
              have hq81 : v81 = σ 141 44 := by rw [hv81, hfσ79 141 44 (by omega), hfσ10 141 44 (by omega), eσ4, dk_up_n (show ¬ (141 = 141 ∧ 44 = 43) by omega)]
              refine dk_iconst (pc' := 197) hE dX11_unit_196 (by decide) rfl ?_
              obtain ⟨v82, hv82⟩ : ∃ z : Int, z = v81 + 1 := ⟨_, rfl⟩
              refine dk_iadd (pc' := 198) hE dX11_unit_197 hv82.symm (by omega) rfl ?_
              refine pf_11_44 (pc' := 201) hE fl_X11_392 dX11_unit_198 is_141 trivial rfl (fun σ83 eσ83 => ?_)
              refine dk_iconst (pc' := 202) hE dX11_unit_201 (by decide) rfl ?_
              have hz84 : σ83 141 42 = n := by rw [eσ83, dk_up_n (show ¬ (141 = 141 ∧ 42 = 44) by omega), hfσ79 141 42 (by omega), hfσ10 141 42 (by omega), eσ4, dk_up_n (show ¬ (141 = 141 ∧ 42 = 43) by omega), hn]
              have hz85 : σ83 141 43 = v3 := by rw [eσ83, dk_up_n (show ¬ (141 = 141 ∧ 43 = 44) by omega), hfσ79 141 43 (by omega), hfσ10 141 43 (by omega), eσ4, dk_up_s]
              have hz86 : σ83 141 44 = v82 := by rw [eσ83, dk_up_s]
              have hz87 : σ83 141 45 = p + 1 := by rw [eσ83, dk_up_n (show ¬ (141 = 141 ∧ 45 = 44) by omega), (hpr80.2.2).symm]
              have hz88 : σ83 141 6 = (σ10 141 6) := by rw [eσ83, dk_up_n (show ¬ (141 = 141 ∧ 6 = 44) by omega), hfσ79 141 6 (by omega)]
              have hz89 : σ83 141 4 = σ 141 4 := by rw [eσ83, dk_up_n (show ¬ (141 = 141 ∧ 4 = 44) by omega), hfσ79 141 4 (by omega), hfσ10 141 4 (by omega), eσ4, dk_up_n (show ¬ (141 = 141 ∧ 4 = 43) by omega)]
              have hz90 : σ83 166 p = 7 := by rw [eσ83, dk_up_n (show ¬ (166 = 141 ∧ p = 44) by omega), (hpr80.1).symm]
              have hz91 : σ83 167 p = 126 := by rw [eσ83, dk_up_n (show ¬ (167 = 141 ∧ p = 44) by omega), (hpr80.2.1).symm]
              have hz92 : σ83 164 (600 * r + n) = σ 164 (600 * r + n) := by rw [eσ83, dk_up_n (show ¬ (164 = 141 ∧ (600 * r + n) = 44) by omega), hfσ79 164 (600 * r + n) (by omega), hfσ10 164 (600 * r + n) (by omega), eσ4, dk_up_n (show ¬ (164 = 141 ∧ (600 * r + n) = 43) by omega)]
              have gi93 : NX σ σ83 := NX_fr gi12 (fun k_ j_ h_ => by rw [eσ83, dk_up_n (show ¬ (k_ = 141 ∧ j_ = 44) by omega), hfσ79 k_ j_ (by omega)])
              exact dk_zret (st := []) hE hR dX11_unit_202 (by omega) ⟨_, rfl, (fun k_ j_ h_ => by rw [eσ83, dk_up_n (show ¬ (k_ = 141 ∧ j_ = 44) from fun q_ => h_ (Or.inr (Or.inr (Or.inr (Or.inr (Or.inr (Or.inr (Or.inr (Or.inr (Or.inr (Or.inl (q_)))))))))))), hfσ79 k_ j_ (fun w_ => h_ (w_.elim (fun x0_ => Or.inr (Or.inr (Or.inr (Or.inr (Or.inr (Or.inr (Or.inr (Or.inr (Or.inr (Or.inr (Or.inr (dk_wr (lo := 164) (hi := 167) x0_.1 (by decide))))))))))))) (fun y0_ => y0_.elim (fun x1_ => Or.inr (Or.inr (Or.inr (Or.inr (Or.inr (Or.inr (Or.inr (Or.inr (Or.inr (Or.inr (Or.inr (dk_wr (lo := 164) (hi := 167) x1_.1 (by decide))))))))))))) (fun y1_ => Or.inr (Or.inr (Or.inr (Or.inr (Or.inr (Or.inr (Or.inr (Or.inr (Or.inr (Or.inr (Or.inl (y1_))))))))))))))), hfσ10 k_ j_ (fun w_ => h_ (w_.elim (fun x0_ => Or.inr (Or.inr (Or.inl (x0_)))) (fun y0_ => y0_.elim (fun x1_ => Or.inr (Or.inr (Or.inr (Or.inl (x1_))))) (fun y1_ => y1_.elim (fun x2_ => Or.inr (Or.inr (Or.inr (Or.inr (Or.inl (x2_)))))) (fun y2_ => y2_.elim (fun x3_ => Or.inr (Or.inr (Or.inr (Or.inr (Or.inr (Or.inl (x3_))))))) (fun y3_ => Or.inr (Or.inr (Or.inr (Or.inr (Or.inr (Or.inr (Or.inl (y3_))))))))))))), eσ4, dk_up_n (show ¬ (k_ = 141 ∧ j_ = 43) from fun q_ => h_ (Or.inr (Or.inr (Or.inr (Or.inr (Or.inr (Or.inr (Or.inr (Or.inr (Or.inl (q_)))))))))))]), ⟨PX_put hP gi93 hn.symm hp0.symm hp1 (fun k_ j_ h_ => by rw [eσ83, dk_up_n (show ¬ (k_ = 141 ∧ j_ = 44) by omega), hfσ79 k_ j_ (by omega), hfσ10 k_ j_ (by omega), eσ4, dk_up_n (show ¬ (k_ = 141 ∧ j_ = 43) by omega)]) (fun j_ => by rw [eσ83, dk_up_n (show ¬ (164 = 141 ∧ j_ = 44) by omega), hfσ79 164 j_ (by omega), hfσ10 164 j_ (by omega), eσ4, dk_up_n (show ¬ (164 = 141 ∧ j_ = 43) by omega)]) (by omega) (by omega) (by omega) (by omega) (by omega) (by omega) (by omega) rfl (Or.inl (by omega)), Or.inr (by omega)⟩⟩
            · skip
              refine dk_iconst (pc' := 181) hE dX11_unit_180 (by decide) rfl ?_
              refine dk_goto (tgt := 186) hE dX11_unit_181 (by decide) ?_
              refine dk_bipush (pc' := 188) hE dX11_unit_186 (by decide) rfl ?_
              have hz94 : σ10 141 45 = p := by rw [hfσ10 141 45 (by omega), eσ4, dk_up_n (show ¬ (141 = 141 ∧ 45 = 43) by omega), hp0]
              refine dk_cV (pc' := 191) (as := [(0, 3), (0, 126)]) hE lk_X11_395 (ct_X11_put l G hGd 3 126 p) dX11_unit_188 rfl is_141 rfl (by decide) (Nat.le_of_ble_eq_true rfl) ⟨rfl, (by omega), (by omega)⟩ rfl (fun r96 σ95 hr96 hor96 => ?_)
              obtain ⟨rfl, hfσ95, hpr96⟩ := hr96
              have H188 := hpr96
              refine dk_aload_n (pc' := 192) hE dX11_unit_191 rfl rfl rfl ?_
              refine dk_dup (pc' := 193) hE dX11_unit_192 (show (4 : Nat) ≠ 3 by decide) rfl ?_
              refine gf_11_44 (pc' := 196) hE fl_X11_392 dX11_unit_193 is_141 rfl (fun v97 hv97 htv97 hbv97 => ?_)
              have hq97 : v97 = σ 141 44 := by rw [hv97, hfσ95 141 44 (by omega), hfσ10 141 44 (by omega), eσ4, dk_up_n (show ¬ (141 = 141 ∧ 44 = 43) by omega)]
              refine dk_iconst (pc' := 197) hE dX11_unit_196 (by decide) rfl ?_
              obtain ⟨v98, hv98⟩ : ∃ z : Int, z = v97 + 1 := ⟨_, rfl⟩
              refine dk_iadd (pc' := 198) hE dX11_unit_197 hv98.symm (by omega) rfl ?_
              refine pf_11_44 (pc' := 201) hE fl_X11_392 dX11_unit_198 is_141 trivial rfl (fun σ99 eσ99 => ?_)
              refine dk_iconst (pc' := 202) hE dX11_unit_201 (by decide) rfl ?_
              have hz100 : σ99 141 42 = n := by rw [eσ99, dk_up_n (show ¬ (141 = 141 ∧ 42 = 44) by omega), hfσ95 141 42 (by omega), hfσ10 141 42 (by omega), eσ4, dk_up_n (show ¬ (141 = 141 ∧ 42 = 43) by omega), hn]
              have hz101 : σ99 141 43 = v3 := by rw [eσ99, dk_up_n (show ¬ (141 = 141 ∧ 43 = 44) by omega), hfσ95 141 43 (by omega), hfσ10 141 43 (by omega), eσ4, dk_up_s]
              have hz102 : σ99 141 44 = v98 := by rw [eσ99, dk_up_s]
              have hz103 : σ99 141 45 = p + 1 := by rw [eσ99, dk_up_n (show ¬ (141 = 141 ∧ 45 = 44) by omega), (hpr96.2.2).symm]
              have hz104 : σ99 141 6 = (σ10 141 6) := by rw [eσ99, dk_up_n (show ¬ (141 = 141 ∧ 6 = 44) by omega), hfσ95 141 6 (by omega)]
              have hz105 : σ99 141 4 = σ 141 4 := by rw [eσ99, dk_up_n (show ¬ (141 = 141 ∧ 4 = 44) by omega), hfσ95 141 4 (by omega), hfσ10 141 4 (by omega), eσ4, dk_up_n (show ¬ (141 = 141 ∧ 4 = 43) by omega)]
              have hz106 : σ99 166 p = 3 := by rw [eσ99, dk_up_n (show ¬ (166 = 141 ∧ p = 44) by omega), (hpr96.1).symm]
              have hz107 : σ99 167 p = 126 := by rw [eσ99, dk_up_n (show ¬ (167 = 141 ∧ p = 44) by omega), (hpr96.2.1).symm]
              have hz108 : σ99 164 (600 * r + n) = σ 164 (600 * r + n) := by rw [eσ99, dk_up_n (show ¬ (164 = 141 ∧ (600 * r + n) = 44) by omega), hfσ95 164 (600 * r + n) (by omega), hfσ10 164 (600 * r + n) (by omega), eσ4, dk_up_n (show ¬ (164 = 141 ∧ (600 * r + n) = 43) by omega)]
              have gi109 : NX σ σ99 := NX_fr gi12 (fun k_ j_ h_ => by rw [eσ99, dk_up_n (show ¬ (k_ = 141 ∧ j_ = 44) by omega), hfσ95 k_ j_ (by omega)])
              exact dk_zret (st := []) hE hR dX11_unit_202 (by omega) ⟨_, rfl, (fun k_ j_ h_ => by rw [eσ99, dk_up_n (show ¬ (k_ = 141 ∧ j_ = 44) from fun q_ => h_ (Or.inr (Or.inr (Or.inr (Or.inr (Or.inr (Or.inr (Or.inr (Or.inr (Or.inr (Or.inl (q_)))))))))))), hfσ95 k_ j_ (fun w_ => h_ (w_.elim (fun x0_ => Or.inr (Or.inr (Or.inr (Or.inr (Or.inr (Or.inr (Or.inr (Or.inr (Or.inr (Or.inr (Or.inr (dk_wr (lo := 164) (hi := 167) x0_.1 (by decide))))))))))))) (fun y0_ => y0_.elim (fun x1_ => Or.inr (Or.inr (Or.inr (Or.inr (Or.inr (Or.inr (Or.inr (Or.inr (Or.inr (Or.inr (Or.inr (dk_wr (lo := 164) (hi := 167) x1_.1 (by decide))))))))))))) (fun y1_ => Or.inr (Or.inr (Or.inr (Or.inr (Or.inr (Or.inr (Or.inr (Or.inr (Or.inr (Or.inr (Or.inl (y1_))))))))))))))), hfσ10 k_ j_ (fun w_ => h_ (w_.elim (fun x0_ => Or.inr (Or.inr (Or.inl (x0_)))) (fun y0_ => y0_.elim (fun x1_ => Or.inr (Or.inr (Or.inr (Or.inl (x1_))))) (fun y1_ => y1_.elim (fun x2_ => Or.inr (Or.inr (Or.inr (Or.inr (Or.inl (x2_)))))) (fun y2_ => y2_.elim (fun x3_ => Or.inr (Or.inr (Or.inr (Or.inr (Or.inr (Or.inl (x3_))))))) (fun y3_ => Or.inr (Or.inr (Or.inr (Or.inr (Or.inr (Or.inr (Or.inl (y3_))))))))))))), eσ4, dk_up_n (show ¬ (k_ = 141 ∧ j_ = 43) from fun q_ => h_ (Or.inr (Or.inr (Or.inr (Or.inr (Or.inr (Or.inr (Or.inr (Or.inr (Or.inl (q_)))))))))))]), ⟨PX_put hP gi109 hn.symm hp0.symm hp1 (fun k_ j_ h_ => by rw [eσ99, dk_up_n (show ¬ (k_ = 141 ∧ j_ = 44) by omega), hfσ95 k_ j_ (by omega), hfσ10 k_ j_ (by omega), eσ4, dk_up_n (show ¬ (k_ = 141 ∧ j_ = 43) by omega)]) (fun j_ => by rw [eσ99, dk_up_n (show ¬ (164 = 141 ∧ j_ = 44) by omega), hfσ95 164 j_ (by omega), hfσ10 164 j_ (by omega), eσ4, dk_up_n (show ¬ (164 = 141 ∧ j_ = 43) by omega)]) (by omega) (by omega) (by omega) (by omega) (by omega) (by omega) (by omega) rfl (Or.inl (by omega)), Or.inr (by omega)⟩⟩
      · skip
        refine dk_aload_n (pc' := 154) hE dX11_unit_153 rfl rfl rfl ?_
        refine gf_11_9 (pc' := 157) hE fl_X11_240 dX11_unit_154 is_141 rfl (fun v110 hv110 htv110 hbv110 => ?_)
        refine dk_goto (tgt := 161) hE dX11_unit_157 (by decide) ?_
        refine dk_istore (pc' := 163) (ls' := [(4, 141), (9, 0), (0, m), (0, x), (0, cc), (0, v110)]) hE dX11_unit_161 rfl (by decide) rfl ?_
        refine dk_aload_n (pc' := 164) hE dX11_unit_163 rfl rfl rfl ?_
        have hz111 : σ4 141 7 = σ 141 7 := by rw [eσ4, dk_up_n (show ¬ (141 = 141 ∧ 7 = 43) by omega)]
        have hz112 : σ4 141 3 = σ 141 3 := by rw [eσ4, dk_up_n (show ¬ (141 = 141 ∧ 3 = 43) by omega)]
        have gi113 : NX σ σ4 := NX_fr (NX_rf hT) (fun k_ j_ h_ => by rw [eσ4, dk_up_n (show ¬ (k_ = 141 ∧ j_ = 43) by omega)])
        have hz114 : σ4 141 3 = σ 141 3 := by rw [eσ4, dk_up_n (show ¬ (141 = 141 ∧ 3 = 43) by omega)]
        refine dk_cV (pc' := 167) (as := []) hE lk_X11_254 (ct_X11_next l G hGd) dX11_unit_164 rfl is_141 rfl (by decide) (Nat.le_of_ble_eq_true rfl) ⟨rfl, ((NX_tk gi113).2.1), (by omega)⟩ rfl (fun r116 σ115 hr116 hor116 => ?_)
        obtain ⟨rfl, hfσ115, hpr116⟩ := hr116
        have H164 := hpr116
        have gi117 : NX σ σ115 := NX_y gi113 hpr116
        have hy_ := H164.2.2.1
        have ht_ := hT.2.2 (by omega)
        refine dk_iload_n (pc' := 168) hE dX11_unit_167 rfl rfl rfl ?_
        refine dk_if_ne (tgt := 175) (pc' := 171) hE dX11_unit_168 (by decide) rfl (fun hc118 => ?_) (fun hc118 => ?_)
        · skip
          refine dk_aload_n (pc' := 176) hE dX11_unit_175 rfl rfl rfl ?_
          refine dk_iload_n (pc' := 177) hE dX11_unit_176 rfl rfl rfl ?_
          refine dk_if_eq (tgt := 184) (pc' := 180) hE dX11_unit_177 (by decide) rfl (fun hc119 => ?_) (fun hc119 => ?_)
          · skip
            refine dk_bipush (pc' := 186) hE dX11_unit_184 (by decide) rfl ?_
            refine dk_bipush (pc' := 188) hE dX11_unit_186 (by decide) rfl ?_
            have hz120 : σ115 141 45 = p := by rw [hfσ115 141 45 (by omega), eσ4, dk_up_n (show ¬ (141 = 141 ∧ 45 = 43) by omega), hp0]
            refine dk_cV (pc' := 191) (as := [(0, 7), (0, 126)]) hE lk_X11_395 (ct_X11_put l G hGd 7 126 p) dX11_unit_188 rfl is_141 rfl (by decide) (Nat.le_of_ble_eq_true rfl) ⟨rfl, (by omega), (by omega)⟩ rfl (fun r122 σ121 hr122 hor122 => ?_)
            obtain ⟨rfl, hfσ121, hpr122⟩ := hr122
            have H188 := hpr122
            refine dk_aload_n (pc' := 192) hE dX11_unit_191 rfl rfl rfl ?_
            refine dk_dup (pc' := 193) hE dX11_unit_192 (show (4 : Nat) ≠ 3 by decide) rfl ?_
            refine gf_11_44 (pc' := 196) hE fl_X11_392 dX11_unit_193 is_141 rfl (fun v123 hv123 htv123 hbv123 => ?_)
            have hq123 : v123 = σ 141 44 := by rw [hv123, hfσ121 141 44 (by omega), hfσ115 141 44 (by omega), eσ4, dk_up_n (show ¬ (141 = 141 ∧ 44 = 43) by omega)]
            refine dk_iconst (pc' := 197) hE dX11_unit_196 (by decide) rfl ?_
            obtain ⟨v124, hv124⟩ : ∃ z : Int, z = v123 + 1 := ⟨_, rfl⟩
            refine dk_iadd (pc' := 198) hE dX11_unit_197 hv124.symm (by omega) rfl ?_
            refine pf_11_44 (pc' := 201) hE fl_X11_392 dX11_unit_198 is_141 trivial rfl (fun σ125 eσ125 => ?_)
            refine dk_iconst (pc' := 202) hE dX11_unit_201 (by decide) rfl ?_
            have hz126 : σ125 141 42 = n := by rw [eσ125, dk_up_n (show ¬ (141 = 141 ∧ 42 = 44) by omega), hfσ121 141 42 (by omega), hfσ115 141 42 (by omega), eσ4, dk_up_n (show ¬ (141 = 141 ∧ 42 = 43) by omega), hn]
            have hz127 : σ125 141 43 = v3 := by rw [eσ125, dk_up_n (show ¬ (141 = 141 ∧ 43 = 44) by omega), hfσ121 141 43 (by omega), hfσ115 141 43 (by omega), eσ4, dk_up_s]
            have hz128 : σ125 141 44 = v124 := by rw [eσ125, dk_up_s]
            have hz129 : σ125 141 45 = p + 1 := by rw [eσ125, dk_up_n (show ¬ (141 = 141 ∧ 45 = 44) by omega), (hpr122.2.2).symm]
            have hz130 : σ125 141 6 = (σ115 141 6) := by rw [eσ125, dk_up_n (show ¬ (141 = 141 ∧ 6 = 44) by omega), hfσ121 141 6 (by omega)]
            have hz131 : σ125 141 4 = σ 141 4 := by rw [eσ125, dk_up_n (show ¬ (141 = 141 ∧ 4 = 44) by omega), hfσ121 141 4 (by omega), hfσ115 141 4 (by omega), eσ4, dk_up_n (show ¬ (141 = 141 ∧ 4 = 43) by omega)]
            have hz132 : σ125 166 p = 7 := by rw [eσ125, dk_up_n (show ¬ (166 = 141 ∧ p = 44) by omega), (hpr122.1).symm]
            have hz133 : σ125 167 p = 126 := by rw [eσ125, dk_up_n (show ¬ (167 = 141 ∧ p = 44) by omega), (hpr122.2.1).symm]
            have hz134 : σ125 164 (600 * r + n) = σ 164 (600 * r + n) := by rw [eσ125, dk_up_n (show ¬ (164 = 141 ∧ (600 * r + n) = 44) by omega), hfσ121 164 (600 * r + n) (by omega), hfσ115 164 (600 * r + n) (by omega), eσ4, dk_up_n (show ¬ (164 = 141 ∧ (600 * r + n) = 43) by omega)]
            have gi135 : NX σ σ125 := NX_fr gi117 (fun k_ j_ h_ => by rw [eσ125, dk_up_n (show ¬ (k_ = 141 ∧ j_ = 44) by omega), hfσ121 k_ j_ (by omega)])
            exact dk_zret (st := []) hE hR dX11_unit_202 (by omega) ⟨_, rfl, (fun k_ j_ h_ => by rw [eσ125, dk_up_n (show ¬ (k_ = 141 ∧ j_ = 44) from fun q_ => h_ (Or.inr (Or.inr (Or.inr (Or.inr (Or.inr (Or.inr (Or.inr (Or.inr (Or.inr (Or.inl (q_)))))))))))), hfσ121 k_ j_ (fun w_ => h_ (w_.elim (fun x0_ => Or.inr (Or.inr (Or.inr (Or.inr (Or.inr (Or.inr (Or.inr (Or.inr (Or.inr (Or.inr (Or.inr (dk_wr (lo := 164) (hi := 167) x0_.1 (by decide))))))))))))) (fun y0_ => y0_.elim (fun x1_ => Or.inr (Or.inr (Or.inr (Or.inr (Or.inr (Or.inr (Or.inr (Or.inr (Or.inr (Or.inr (Or.inr (dk_wr (lo := 164) (hi := 167) x1_.1 (by decide))))))))))))) (fun y1_ => Or.inr (Or.inr (Or.inr (Or.inr (Or.inr (Or.inr (Or.inr (Or.inr (Or.inr (Or.inr (Or.inl (y1_))))))))))))))), hfσ115 k_ j_ (fun w_ => h_ (w_.elim (fun x0_ => Or.inr (Or.inr (Or.inl (x0_)))) (fun y0_ => y0_.elim (fun x1_ => Or.inr (Or.inr (Or.inr (Or.inl (x1_))))) (fun y1_ => y1_.elim (fun x2_ => Or.inr (Or.inr (Or.inr (Or.inr (Or.inl (x2_)))))) (fun y2_ => y2_.elim (fun x3_ => Or.inr (Or.inr (Or.inr (Or.inr (Or.inr (Or.inl (x3_))))))) (fun y3_ => Or.inr (Or.inr (Or.inr (Or.inr (Or.inr (Or.inr (Or.inl (y3_))))))))))))), eσ4, dk_up_n (show ¬ (k_ = 141 ∧ j_ = 43) from fun q_ => h_ (Or.inr (Or.inr (Or.inr (Or.inr (Or.inr (Or.inr (Or.inr (Or.inr (Or.inl (q_)))))))))))]), ⟨PX_put hP gi135 hn.symm hp0.symm hp1 (fun k_ j_ h_ => by rw [eσ125, dk_up_n (show ¬ (k_ = 141 ∧ j_ = 44) by omega), hfσ121 k_ j_ (by omega), hfσ115 k_ j_ (by omega), eσ4, dk_up_n (show ¬ (k_ = 141 ∧ j_ = 43) by omega)]) (fun j_ => by rw [eσ125, dk_up_n (show ¬ (164 = 141 ∧ j_ = 44) by omega), hfσ121 164 j_ (by omega), hfσ115 164 j_ (by omega), eσ4, dk_up_n (show ¬ (164 = 141 ∧ j_ = 43) by omega)]) (by omega) (by omega) (by omega) (by omega) (by omega) (by omega) (by omega) rfl (Or.inl (by omega)), Or.inr (by omega)⟩⟩
          · skip
            refine dk_iconst (pc' := 181) hE dX11_unit_180 (by decide) rfl ?_
            refine dk_goto (tgt := 186) hE dX11_unit_181 (by decide) ?_
            refine dk_bipush (pc' := 188) hE dX11_unit_186 (by decide) rfl ?_
            have hz136 : σ115 141 45 = p := by rw [hfσ115 141 45 (by omega), eσ4, dk_up_n (show ¬ (141 = 141 ∧ 45 = 43) by omega), hp0]
            refine dk_cV (pc' := 191) (as := [(0, 3), (0, 126)]) hE lk_X11_395 (ct_X11_put l G hGd 3 126 p) dX11_unit_188 rfl is_141 rfl (by decide) (Nat.le_of_ble_eq_true rfl) ⟨rfl, (by omega), (by omega)⟩ rfl (fun r138 σ137 hr138 hor138 => ?_)
            obtain ⟨rfl, hfσ137, hpr138⟩ := hr138
            have H188 := hpr138
            refine dk_aload_n (pc' := 192) hE dX11_unit_191 rfl rfl rfl ?_
            refine dk_dup (pc' := 193) hE dX11_unit_192 (show (4 : Nat) ≠ 3 by decide) rfl ?_
            refine gf_11_44 (pc' := 196) hE fl_X11_392 dX11_unit_193 is_141 rfl (fun v139 hv139 htv139 hbv139 => ?_)
            have hq139 : v139 = σ 141 44 := by rw [hv139, hfσ137 141 44 (by omega), hfσ115 141 44 (by omega), eσ4, dk_up_n (show ¬ (141 = 141 ∧ 44 = 43) by omega)]
            refine dk_iconst (pc' := 197) hE dX11_unit_196 (by decide) rfl ?_
            obtain ⟨v140, hv140⟩ : ∃ z : Int, z = v139 + 1 := ⟨_, rfl⟩
            refine dk_iadd (pc' := 198) hE dX11_unit_197 hv140.symm (by omega) rfl ?_
            refine pf_11_44 (pc' := 201) hE fl_X11_392 dX11_unit_198 is_141 trivial rfl (fun σ141 eσ141 => ?_)
            refine dk_iconst (pc' := 202) hE dX11_unit_201 (by decide) rfl ?_
            have hz142 : σ141 141 42 = n := by rw [eσ141, dk_up_n (show ¬ (141 = 141 ∧ 42 = 44) by omega), hfσ137 141 42 (by omega), hfσ115 141 42 (by omega), eσ4, dk_up_n (show ¬ (141 = 141 ∧ 42 = 43) by omega), hn]
            have hz143 : σ141 141 43 = v3 := by rw [eσ141, dk_up_n (show ¬ (141 = 141 ∧ 43 = 44) by omega), hfσ137 141 43 (by omega), hfσ115 141 43 (by omega), eσ4, dk_up_s]
            have hz144 : σ141 141 44 = v140 := by rw [eσ141, dk_up_s]
            have hz145 : σ141 141 45 = p + 1 := by rw [eσ141, dk_up_n (show ¬ (141 = 141 ∧ 45 = 44) by omega), (hpr138.2.2).symm]
            have hz146 : σ141 141 6 = (σ115 141 6) := by rw [eσ141, dk_up_n (show ¬ (141 = 141 ∧ 6 = 44) by omega), hfσ137 141 6 (by omega)]
            have hz147 : σ141 141 4 = σ 141 4 := by rw [eσ141, dk_up_n (show ¬ (141 = 141 ∧ 4 = 44) by omega), hfσ137 141 4 (by omega), hfσ115 141 4 (by omega), eσ4, dk_up_n (show ¬ (141 = 141 ∧ 4 = 43) by omega)]
            have hz148 : σ141 166 p = 3 := by rw [eσ141, dk_up_n (show ¬ (166 = 141 ∧ p = 44) by omega), (hpr138.1).symm]
            have hz149 : σ141 167 p = 126 := by rw [eσ141, dk_up_n (show ¬ (167 = 141 ∧ p = 44) by omega), (hpr138.2.1).symm]
            have hz150 : σ141 164 (600 * r + n) = σ 164 (600 * r + n) := by rw [eσ141, dk_up_n (show ¬ (164 = 141 ∧ (600 * r + n) = 44) by omega), hfσ137 164 (600 * r + n) (by omega), hfσ115 164 (600 * r + n) (by omega), eσ4, dk_up_n (show ¬ (164 = 141 ∧ (600 * r + n) = 43) by omega)]
            have gi151 : NX σ σ141 := NX_fr gi117 (fun k_ j_ h_ => by rw [eσ141, dk_up_n (show ¬ (k_ = 141 ∧ j_ = 44) by omega), hfσ137 k_ j_ (by omega)])
            exact dk_zret (st := []) hE hR dX11_unit_202 (by omega) ⟨_, rfl, (fun k_ j_ h_ => by rw [eσ141, dk_up_n (show ¬ (k_ = 141 ∧ j_ = 44) from fun q_ => h_ (Or.inr (Or.inr (Or.inr (Or.inr (Or.inr (Or.inr (Or.inr (Or.inr (Or.inr (Or.inl (q_)))))))))))), hfσ137 k_ j_ (fun w_ => h_ (w_.elim (fun x0_ => Or.inr (Or.inr (Or.inr (Or.inr (Or.inr (Or.inr (Or.inr (Or.inr (Or.inr (Or.inr (Or.inr (dk_wr (lo := 164) (hi := 167) x0_.1 (by decide))))))))))))) (fun y0_ => y0_.elim (fun x1_ => Or.inr (Or.inr (Or.inr (Or.inr (Or.inr (Or.inr (Or.inr (Or.inr (Or.inr (Or.inr (Or.inr (dk_wr (lo := 164) (hi := 167) x1_.1 (by decide))))))))))))) (fun y1_ => Or.inr (Or.inr (Or.inr (Or.inr (Or.inr (Or.inr (Or.inr (Or.inr (Or.inr (Or.inr (Or.inl (y1_))))))))))))))), hfσ115 k_ j_ (fun w_ => h_ (w_.elim (fun x0_ => Or.inr (Or.inr (Or.inl (x0_)))) (fun y0_ => y0_.elim (fun x1_ => Or.inr (Or.inr (Or.inr (Or.inl (x1_))))) (fun y1_ => y1_.elim (fun x2_ => Or.inr (Or.inr (Or.inr (Or.inr (Or.inl (x2_)))))) (fun y2_ => y2_.elim (fun x3_ => Or.inr (Or.inr (Or.inr (Or.inr (Or.inr (Or.inl (x3_))))))) (fun y3_ => Or.inr (Or.inr (Or.inr (Or.inr (Or.inr (Or.inr (Or.inl (y3_))))))))))))), eσ4, dk_up_n (show ¬ (k_ = 141 ∧ j_ = 43) from fun q_ => h_ (Or.inr (Or.inr (Or.inr (Or.inr (Or.inr (Or.inr (Or.inr (Or.inr (Or.inl (q_)))))))))))]), ⟨PX_put hP gi151 hn.symm hp0.symm hp1 (fun k_ j_ h_ => by rw [eσ141, dk_up_n (show ¬ (k_ = 141 ∧ j_ = 44) by omega), hfσ137 k_ j_ (by omega), hfσ115 k_ j_ (by omega), eσ4, dk_up_n (show ¬ (k_ = 141 ∧ j_ = 43) by omega)]) (fun j_ => by rw [eσ141, dk_up_n (show ¬ (164 = 141 ∧ j_ = 44) by omega), hfσ137 164 j_ (by omega), hfσ115 164 j_ (by omega), eσ4, dk_up_n (show ¬ (164 = 141 ∧ j_ = 43) by omega)]) (by omega) (by omega) (by omega) (by omega) (by omega) (by omega) (by omega) rfl (Or.inl (by omega)), Or.inr (by omega)⟩⟩
        · skip
          refine dk_iload_n (pc' := 172) hE dX11_unit_171 rfl rfl rfl ?_
          refine dk_if_eq (tgt := 203) (pc' := 175) hE dX11_unit_172 (by decide) rfl (fun hc152 => ?_) (fun hc152 => ?_)
          · skip
            refine dk_aload_n (pc' := 204) hE dX11_unit_203 rfl rfl rfl ?_
            refine dk_iload (pc' := 206) hE dX11_unit_204 rfl rfl ?_
            refine dk_if_ne (tgt := 214) (pc' := 209) hE dX11_unit_206 (by decide) rfl (fun hc153 => ?_) (fun hc153 => ?_)
            · skip
              refine dk_iload (pc' := 216) hE dX11_unit_214 rfl rfl ?_
              refine dk_iload (pc' := 218) hE dX11_unit_216 rfl rfl ?_
              have hz154 : σ115 141 41 = σ 141 41 := by rw [hfσ115 141 41 (by omega), eσ4, dk_up_n (show ¬ (141 = 141 ∧ 41 = 43) by omega)]
              have hz155 : σ115 141 42 = n := by rw [hfσ115 141 42 (by omega), eσ4, dk_up_n (show ¬ (141 = 141 ∧ 42 = 43) by omega), hn]
              refine dk_cV (pc' := 221) (as := [(0, cc), (0, v110)]) hE lk_X11_407 (ct_X11_sign0 l G hGd cc v110 r n (600 * r + n)) dX11_unit_218 rfl is_141 rfl (by decide) (Nat.le_of_ble_eq_true rfl) ⟨rfl, (by omega), (by omega), (by omega), (by omega), (by omega)⟩ rfl (fun r157 σ156 hr157 hor157 => ?_)
              obtain ⟨rfl, hfσ156, hpr157⟩ := hr157
              have H218 := hpr157
              refine dk_iconst (pc' := 222) hE dX11_unit_221 (by decide) rfl ?_
              have hz158 : σ156 141 42 = n + 1 := by rw [(hpr157.2).symm]
              have hz159 : σ156 141 43 = v3 := by rw [hfσ156 141 43 (by omega), hfσ115 141 43 (by omega), eσ4, dk_up_s]
              have hz160 : σ156 141 44 = σ 141 44 := by rw [hfσ156 141 44 (by omega), hfσ115 141 44 (by omega), eσ4, dk_up_n (show ¬ (141 = 141 ∧ 44 = 43) by omega)]
              have hz161 : σ156 141 45 = p := by rw [hfσ156 141 45 (by omega), hfσ115 141 45 (by omega), eσ4, dk_up_n (show ¬ (141 = 141 ∧ 45 = 43) by omega), hp0]
              have hz162 : σ156 141 6 = (σ115 141 6) := by rw [hfσ156 141 6 (by omega)]
              have hz163 : σ156 141 4 = σ 141 4 := by rw [hfσ156 141 4 (by omega), hfσ115 141 4 (by omega), eσ4, dk_up_n (show ¬ (141 = 141 ∧ 4 = 43) by omega)]
              have hz164 : σ156 166 p = σ 166 p := by rw [hfσ156 166 p (by omega), hfσ115 166 p (by omega), eσ4, dk_up_n (show ¬ (166 = 141 ∧ p = 43) by omega)]
              have hz165 : σ156 167 p = σ 167 p := by rw [hfσ156 167 p (by omega), hfσ115 167 p (by omega), eσ4, dk_up_n (show ¬ (167 = 141 ∧ p = 43) by omega)]
              have hz166 : σ156 164 (600 * r + n) = cc := by rw [(hpr157.1).symm]
              have gi167 : NX σ σ156 := NX_fr gi117 (fun k_ j_ h_ => by rw [hfσ156 k_ j_ (by omega)])
              exact dk_zret (st := []) hE hR dX11_unit_222 (by omega) ⟨_, rfl, (fun k_ j_ h_ => by rw [hfσ156 k_ j_ (fun w_ => h_ (w_.elim (fun x0_ => Or.inr (Or.inr (Or.inr (Or.inr (Or.inr (Or.inr (Or.inr (Or.inr (Or.inr (Or.inr (Or.inr (dk_wr (lo := 164) (hi := 167) x0_.1 (by decide))))))))))))) (fun y0_ => y0_.elim (fun x1_ => Or.inr (Or.inr (Or.inr (Or.inr (Or.inr (Or.inr (Or.inr (Or.inr (Or.inr (Or.inr (Or.inr (dk_wr (lo := 164) (hi := 167) x1_.1 (by decide))))))))))))) (fun y1_ => Or.inr (Or.inr (Or.inr (Or.inr (Or.inr (Or.inr (Or.inr (Or.inl (y1_)))))))))))), hfσ115 k_ j_ (fun w_ => h_ (w_.elim (fun x0_ => Or.inr (Or.inr (Or.inl (x0_)))) (fun y0_ => y0_.elim (fun x1_ => Or.inr (Or.inr (Or.inr (Or.inl (x1_))))) (fun y1_ => y1_.elim (fun x2_ => Or.inr (Or.inr (Or.inr (Or.inr (Or.inl (x2_)))))) (fun y2_ => y2_.elim (fun x3_ => Or.inr (Or.inr (Or.inr (Or.inr (Or.inr (Or.inl (x3_))))))) (fun y3_ => Or.inr (Or.inr (Or.inr (Or.inr (Or.inr (Or.inr (Or.inl (y3_))))))))))))), eσ4, dk_up_n (show ¬ (k_ = 141 ∧ j_ = 43) from fun q_ => h_ (Or.inr (Or.inr (Or.inr (Or.inr (Or.inr (Or.inr (Or.inr (Or.inr (Or.inl (q_)))))))))))]), ⟨PX_op hP gi167 hn.symm hp0.symm hp1 (fun k_ j_ h_ => by rw [hfσ156 k_ j_ (by omega), hfσ115 k_ j_ (by omega), eσ4, dk_up_n (show ¬ (k_ = 141 ∧ j_ = 43) by omega)]) (fun j_ => by rw [hfσ156 166 j_ (by omega), hfσ115 166 j_ (by omega), eσ4, dk_up_n (show ¬ (166 = 141 ∧ j_ = 43) by omega)]) (fun j_ => by rw [hfσ156 167 j_ (by omega), hfσ115 167 j_ (by omega), eσ4, dk_up_n (show ¬ (167 = 141 ∧ j_ = 43) by omega)]) (by omega) (by omega) (by omega) (by omega) (by omega) (by omega) (by omega) (by omega), Or.inr (by omega)⟩⟩
            · skip
              refine dk_bipush (pc' := 211) hE dX11_unit_209 (by decide) rfl ?_
              refine dk_goto (tgt := 216) hE dX11_unit_211 (by decide) ?_
              refine dk_iload (pc' := 218) hE dX11_unit_216 rfl rfl ?_
              have hz168 : σ115 141 41 = σ 141 41 := by rw [hfσ115 141 41 (by omega), eσ4, dk_up_n (show ¬ (141 = 141 ∧ 41 = 43) by omega)]
              have hz169 : σ115 141 42 = n := by rw [hfσ115 141 42 (by omega), eσ4, dk_up_n (show ¬ (141 = 141 ∧ 42 = 43) by omega), hn]
              refine dk_cV (pc' := 221) (as := [(0, 110), (0, v110)]) hE lk_X11_407 (ct_X11_sign0 l G hGd 110 v110 r n (600 * r + n)) dX11_unit_218 rfl is_141 rfl (by decide) (Nat.le_of_ble_eq_true rfl) ⟨rfl, (by omega), (by omega), (by omega), (by omega), (by omega)⟩ rfl (fun r171 σ170 hr171 hor171 => ?_)
              obtain ⟨rfl, hfσ170, hpr171⟩ := hr171
              have H218 := hpr171
              refine dk_iconst (pc' := 222) hE dX11_unit_221 (by decide) rfl ?_
              have hz172 : σ170 141 42 = n + 1 := by rw [(hpr171.2).symm]
              have hz173 : σ170 141 43 = v3 := by rw [hfσ170 141 43 (by omega), hfσ115 141 43 (by omega), eσ4, dk_up_s]
              have hz174 : σ170 141 44 = σ 141 44 := by rw [hfσ170 141 44 (by omega), hfσ115 141 44 (by omega), eσ4, dk_up_n (show ¬ (141 = 141 ∧ 44 = 43) by omega)]
              have hz175 : σ170 141 45 = p := by rw [hfσ170 141 45 (by omega), hfσ115 141 45 (by omega), eσ4, dk_up_n (show ¬ (141 = 141 ∧ 45 = 43) by omega), hp0]
              have hz176 : σ170 141 6 = (σ115 141 6) := by rw [hfσ170 141 6 (by omega)]
              have hz177 : σ170 141 4 = σ 141 4 := by rw [hfσ170 141 4 (by omega), hfσ115 141 4 (by omega), eσ4, dk_up_n (show ¬ (141 = 141 ∧ 4 = 43) by omega)]
              have hz178 : σ170 166 p = σ 166 p := by rw [hfσ170 166 p (by omega), hfσ115 166 p (by omega), eσ4, dk_up_n (show ¬ (166 = 141 ∧ p = 43) by omega)]
              have hz179 : σ170 167 p = σ 167 p := by rw [hfσ170 167 p (by omega), hfσ115 167 p (by omega), eσ4, dk_up_n (show ¬ (167 = 141 ∧ p = 43) by omega)]
              have hz180 : σ170 164 (600 * r + n) = 110 := by rw [(hpr171.1).symm]
              have gi181 : NX σ σ170 := NX_fr gi117 (fun k_ j_ h_ => by rw [hfσ170 k_ j_ (by omega)])
              exact dk_zret (st := []) hE hR dX11_unit_222 (by omega) ⟨_, rfl, (fun k_ j_ h_ => by rw [hfσ170 k_ j_ (fun w_ => h_ (w_.elim (fun x0_ => Or.inr (Or.inr (Or.inr (Or.inr (Or.inr (Or.inr (Or.inr (Or.inr (Or.inr (Or.inr (Or.inr (dk_wr (lo := 164) (hi := 167) x0_.1 (by decide))))))))))))) (fun y0_ => y0_.elim (fun x1_ => Or.inr (Or.inr (Or.inr (Or.inr (Or.inr (Or.inr (Or.inr (Or.inr (Or.inr (Or.inr (Or.inr (dk_wr (lo := 164) (hi := 167) x1_.1 (by decide))))))))))))) (fun y1_ => Or.inr (Or.inr (Or.inr (Or.inr (Or.inr (Or.inr (Or.inr (Or.inl (y1_)))))))))))), hfσ115 k_ j_ (fun w_ => h_ (w_.elim (fun x0_ => Or.inr (Or.inr (Or.inl (x0_)))) (fun y0_ => y0_.elim (fun x1_ => Or.inr (Or.inr (Or.inr (Or.inl (x1_))))) (fun y1_ => y1_.elim (fun x2_ => Or.inr (Or.inr (Or.inr (Or.inr (Or.inl (x2_)))))) (fun y2_ => y2_.elim (fun x3_ => Or.inr (Or.inr (Or.inr (Or.inr (Or.inr (Or.inl (x3_))))))) (fun y3_ => Or.inr (Or.inr (Or.inr (Or.inr (Or.inr (Or.inr (Or.inl (y3_))))))))))))), eσ4, dk_up_n (show ¬ (k_ = 141 ∧ j_ = 43) from fun q_ => h_ (Or.inr (Or.inr (Or.inr (Or.inr (Or.inr (Or.inr (Or.inr (Or.inr (Or.inl (q_)))))))))))]), ⟨PX_op hP gi181 hn.symm hp0.symm hp1 (fun k_ j_ h_ => by rw [hfσ170 k_ j_ (by omega), hfσ115 k_ j_ (by omega), eσ4, dk_up_n (show ¬ (k_ = 141 ∧ j_ = 43) by omega)]) (fun j_ => by rw [hfσ170 166 j_ (by omega), hfσ115 166 j_ (by omega), eσ4, dk_up_n (show ¬ (166 = 141 ∧ j_ = 43) by omega)]) (fun j_ => by rw [hfσ170 167 j_ (by omega), hfσ115 167 j_ (by omega), eσ4, dk_up_n (show ¬ (167 = 141 ∧ j_ = 43) by omega)]) (by omega) (by omega) (by omega) (by omega) (by omega) (by omega) (by omega) (by omega), Or.inr (by omega)⟩⟩
          · skip
            refine dk_aload_n (pc' := 176) hE dX11_unit_175 rfl rfl rfl ?_
            refine dk_iload_n (pc' := 177) hE dX11_unit_176 rfl rfl rfl ?_
            refine dk_if_eq (tgt := 184) (pc' := 180) hE dX11_unit_177 (by decide) rfl (fun hc182 => ?_) (fun hc182 => ?_)
            · skip
              refine dk_bipush (pc' := 186) hE dX11_unit_184 (by decide) rfl ?_
              refine dk_bipush (pc' := 188) hE dX11_unit_186 (by decide) rfl ?_
              have hz183 : σ115 141 45 = p := by rw [hfσ115 141 45 (by omega), eσ4, dk_up_n (show ¬ (141 = 141 ∧ 45 = 43) by omega), hp0]
              refine dk_cV (pc' := 191) (as := [(0, 7), (0, 126)]) hE lk_X11_395 (ct_X11_put l G hGd 7 126 p) dX11_unit_188 rfl is_141 rfl (by decide) (Nat.le_of_ble_eq_true rfl) ⟨rfl, (by omega), (by omega)⟩ rfl (fun r185 σ184 hr185 hor185 => ?_)
              obtain ⟨rfl, hfσ184, hpr185⟩ := hr185
              have H188 := hpr185
              refine dk_aload_n (pc' := 192) hE dX11_unit_191 rfl rfl rfl ?_
              refine dk_dup (pc' := 193) hE dX11_unit_192 (show (4 : Nat) ≠ 3 by decide) rfl ?_
              refine gf_11_44 (pc' := 196) hE fl_X11_392 dX11_unit_193 is_141 rfl (fun v186 hv186 htv186 hbv186 => ?_)
              have hq186 : v186 = σ 141 44 := by rw [hv186, hfσ184 141 44 (by omega), hfσ115 141 44 (by omega), eσ4, dk_up_n (show ¬ (141 = 141 ∧ 44 = 43) by omega)]
              refine dk_iconst (pc' := 197) hE dX11_unit_196 (by decide) rfl ?_
              obtain ⟨v187, hv187⟩ : ∃ z : Int, z = v186 + 1 := ⟨_, rfl⟩
              refine dk_iadd (pc' := 198) hE dX11_unit_197 hv187.symm (by omega) rfl ?_
              refine pf_11_44 (pc' := 201) hE fl_X11_392 dX11_unit_198 is_141 trivial rfl (fun σ188 eσ188 => ?_)
              refine dk_iconst (pc' := 202) hE dX11_unit_201 (by decide) rfl ?_
              have hz189 : σ188 141 42 = n := by rw [eσ188, dk_up_n (show ¬ (141 = 141 ∧ 42 = 44) by omega), hfσ184 141 42 (by omega), hfσ115 141 42 (by omega), eσ4, dk_up_n (show ¬ (141 = 141 ∧ 42 = 43) by omega), hn]
              have hz190 : σ188 141 43 = v3 := by rw [eσ188, dk_up_n (show ¬ (141 = 141 ∧ 43 = 44) by omega), hfσ184 141 43 (by omega), hfσ115 141 43 (by omega), eσ4, dk_up_s]
              have hz191 : σ188 141 44 = v187 := by rw [eσ188, dk_up_s]
              have hz192 : σ188 141 45 = p + 1 := by rw [eσ188, dk_up_n (show ¬ (141 = 141 ∧ 45 = 44) by omega), (hpr185.2.2).symm]
              have hz193 : σ188 141 6 = (σ115 141 6) := by rw [eσ188, dk_up_n (show ¬ (141 = 141 ∧ 6 = 44) by omega), hfσ184 141 6 (by omega)]
              have hz194 : σ188 141 4 = σ 141 4 := by rw [eσ188, dk_up_n (show ¬ (141 = 141 ∧ 4 = 44) by omega), hfσ184 141 4 (by omega), hfσ115 141 4 (by omega), eσ4, dk_up_n (show ¬ (141 = 141 ∧ 4 = 43) by omega)]
              have hz195 : σ188 166 p = 7 := by rw [eσ188, dk_up_n (show ¬ (166 = 141 ∧ p = 44) by omega), (hpr185.1).symm]
              have hz196 : σ188 167 p = 126 := by rw [eσ188, dk_up_n (show ¬ (167 = 141 ∧ p = 44) by omega), (hpr185.2.1).symm]
              have hz197 : σ188 164 (600 * r + n) = σ 164 (600 * r + n) := by rw [eσ188, dk_up_n (show ¬ (164 = 141 ∧ (600 * r + n) = 44) by omega), hfσ184 164 (600 * r + n) (by omega), hfσ115 164 (600 * r + n) (by omega), eσ4, dk_up_n (show ¬ (164 = 141 ∧ (600 * r + n) = 43) by omega)]
              have gi198 : NX σ σ188 := NX_fr gi117 (fun k_ j_ h_ => by rw [eσ188, dk_up_n (show ¬ (k_ = 141 ∧ j_ = 44) by omega), hfσ184 k_ j_ (by omega)])
              exact dk_zret (st := []) hE hR dX11_unit_202 (by omega) ⟨_, rfl, (fun k_ j_ h_ => by rw [eσ188, dk_up_n (show ¬ (k_ = 141 ∧ j_ = 44) from fun q_ => h_ (Or.inr (Or.inr (Or.inr (Or.inr (Or.inr (Or.inr (Or.inr (Or.inr (Or.inr (Or.inl (q_)))))))))))), hfσ184 k_ j_ (fun w_ => h_ (w_.elim (fun x0_ => Or.inr (Or.inr (Or.inr (Or.inr (Or.inr (Or.inr (Or.inr (Or.inr (Or.inr (Or.inr (Or.inr (dk_wr (lo := 164) (hi := 167) x0_.1 (by decide))))))))))))) (fun y0_ => y0_.elim (fun x1_ => Or.inr (Or.inr (Or.inr (Or.inr (Or.inr (Or.inr (Or.inr (Or.inr (Or.inr (Or.inr (Or.inr (dk_wr (lo := 164) (hi := 167) x1_.1 (by decide))))))))))))) (fun y1_ => Or.inr (Or.inr (Or.inr (Or.inr (Or.inr (Or.inr (Or.inr (Or.inr (Or.inr (Or.inr (Or.inl (y1_))))))))))))))), hfσ115 k_ j_ (fun w_ => h_ (w_.elim (fun x0_ => Or.inr (Or.inr (Or.inl (x0_)))) (fun y0_ => y0_.elim (fun x1_ => Or.inr (Or.inr (Or.inr (Or.inl (x1_))))) (fun y1_ => y1_.elim (fun x2_ => Or.inr (Or.inr (Or.inr (Or.inr (Or.inl (x2_)))))) (fun y2_ => y2_.elim (fun x3_ => Or.inr (Or.inr (Or.inr (Or.inr (Or.inr (Or.inl (x3_))))))) (fun y3_ => Or.inr (Or.inr (Or.inr (Or.inr (Or.inr (Or.inr (Or.inl (y3_))))))))))))), eσ4, dk_up_n (show ¬ (k_ = 141 ∧ j_ = 43) from fun q_ => h_ (Or.inr (Or.inr (Or.inr (Or.inr (Or.inr (Or.inr (Or.inr (Or.inr (Or.inl (q_)))))))))))]), ⟨PX_put hP gi198 hn.symm hp0.symm hp1 (fun k_ j_ h_ => by rw [eσ188, dk_up_n (show ¬ (k_ = 141 ∧ j_ = 44) by omega), hfσ184 k_ j_ (by omega), hfσ115 k_ j_ (by omega), eσ4, dk_up_n (show ¬ (k_ = 141 ∧ j_ = 43) by omega)]) (fun j_ => by rw [eσ188, dk_up_n (show ¬ (164 = 141 ∧ j_ = 44) by omega), hfσ184 164 j_ (by omega), hfσ115 164 j_ (by omega), eσ4, dk_up_n (show ¬ (164 = 141 ∧ j_ = 43) by omega)]) (by omega) (by omega) (by omega) (by omega) (by omega) (by omega) (by omega) rfl (Or.inl (by omega)), Or.inr (by omega)⟩⟩
            · skip
              refine dk_iconst (pc' := 181) hE dX11_unit_180 (by decide) rfl ?_
              refine dk_goto (tgt := 186) hE dX11_unit_181 (by decide) ?_
              refine dk_bipush (pc' := 188) hE dX11_unit_186 (by decide) rfl ?_
              have hz199 : σ115 141 45 = p := by rw [hfσ115 141 45 (by omega), eσ4, dk_up_n (show ¬ (141 = 141 ∧ 45 = 43) by omega), hp0]
              refine dk_cV (pc' := 191) (as := [(0, 3), (0, 126)]) hE lk_X11_395 (ct_X11_put l G hGd 3 126 p) dX11_unit_188 rfl is_141 rfl (by decide) (Nat.le_of_ble_eq_true rfl) ⟨rfl, (by omega), (by omega)⟩ rfl (fun r201 σ200 hr201 hor201 => ?_)
              obtain ⟨rfl, hfσ200, hpr201⟩ := hr201
              have H188 := hpr201
              refine dk_aload_n (pc' := 192) hE dX11_unit_191 rfl rfl rfl ?_
              refine dk_dup (pc' := 193) hE dX11_unit_192 (show (4 : Nat) ≠ 3 by decide) rfl ?_
              refine gf_11_44 (pc' := 196) hE fl_X11_392 dX11_unit_193 is_141 rfl (fun v202 hv202 htv202 hbv202 => ?_)
              have hq202 : v202 = σ 141 44 := by rw [hv202, hfσ200 141 44 (by omega), hfσ115 141 44 (by omega), eσ4, dk_up_n (show ¬ (141 = 141 ∧ 44 = 43) by omega)]
              refine dk_iconst (pc' := 197) hE dX11_unit_196 (by decide) rfl ?_
              obtain ⟨v203, hv203⟩ : ∃ z : Int, z = v202 + 1 := ⟨_, rfl⟩
              refine dk_iadd (pc' := 198) hE dX11_unit_197 hv203.symm (by omega) rfl ?_
              refine pf_11_44 (pc' := 201) hE fl_X11_392 dX11_unit_198 is_141 trivial rfl (fun σ204 eσ204 => ?_)
              refine dk_iconst (pc' := 202) hE dX11_unit_201 (by decide) rfl ?_
              have hz205 : σ204 141 42 = n := by rw [eσ204, dk_up_n (show ¬ (141 = 141 ∧ 42 = 44) by omega), hfσ200 141 42 (by omega), hfσ115 141 42 (by omega), eσ4, dk_up_n (show ¬ (141 = 141 ∧ 42 = 43) by omega), hn]
              have hz206 : σ204 141 43 = v3 := by rw [eσ204, dk_up_n (show ¬ (141 = 141 ∧ 43 = 44) by omega), hfσ200 141 43 (by omega), hfσ115 141 43 (by omega), eσ4, dk_up_s]
              have hz207 : σ204 141 44 = v203 := by rw [eσ204, dk_up_s]
              have hz208 : σ204 141 45 = p + 1 := by rw [eσ204, dk_up_n (show ¬ (141 = 141 ∧ 45 = 44) by omega), (hpr201.2.2).symm]
              have hz209 : σ204 141 6 = (σ115 141 6) := by rw [eσ204, dk_up_n (show ¬ (141 = 141 ∧ 6 = 44) by omega), hfσ200 141 6 (by omega)]
              have hz210 : σ204 141 4 = σ 141 4 := by rw [eσ204, dk_up_n (show ¬ (141 = 141 ∧ 4 = 44) by omega), hfσ200 141 4 (by omega), hfσ115 141 4 (by omega), eσ4, dk_up_n (show ¬ (141 = 141 ∧ 4 = 43) by omega)]
              have hz211 : σ204 166 p = 3 := by rw [eσ204, dk_up_n (show ¬ (166 = 141 ∧ p = 44) by omega), (hpr201.1).symm]
              have hz212 : σ204 167 p = 126 := by rw [eσ204, dk_up_n (show ¬ (167 = 141 ∧ p = 44) by omega), (hpr201.2.1).symm]
              have hz213 : σ204 164 (600 * r + n) = σ 164 (600 * r + n) := by rw [eσ204, dk_up_n (show ¬ (164 = 141 ∧ (600 * r + n) = 44) by omega), hfσ200 164 (600 * r + n) (by omega), hfσ115 164 (600 * r + n) (by omega), eσ4, dk_up_n (show ¬ (164 = 141 ∧ (600 * r + n) = 43) by omega)]
              have gi214 : NX σ σ204 := NX_fr gi117 (fun k_ j_ h_ => by rw [eσ204, dk_up_n (show ¬ (k_ = 141 ∧ j_ = 44) by omega), hfσ200 k_ j_ (by omega)])
              exact dk_zret (st := []) hE hR dX11_unit_202 (by omega) ⟨_, rfl, (fun k_ j_ h_ => by rw [eσ204, dk_up_n (show ¬ (k_ = 141 ∧ j_ = 44) from fun q_ => h_ (Or.inr (Or.inr (Or.inr (Or.inr (Or.inr (Or.inr (Or.inr (Or.inr (Or.inr (Or.inl (q_)))))))))))), hfσ200 k_ j_ (fun w_ => h_ (w_.elim (fun x0_ => Or.inr (Or.inr (Or.inr (Or.inr (Or.inr (Or.inr (Or.inr (Or.inr (Or.inr (Or.inr (Or.inr (dk_wr (lo := 164) (hi := 167) x0_.1 (by decide))))))))))))) (fun y0_ => y0_.elim (fun x1_ => Or.inr (Or.inr (Or.inr (Or.inr (Or.inr (Or.inr (Or.inr (Or.inr (Or.inr (Or.inr (Or.inr (dk_wr (lo := 164) (hi := 167) x1_.1 (by decide))))))))))))) (fun y1_ => Or.inr (Or.inr (Or.inr (Or.inr (Or.inr (Or.inr (Or.inr (Or.inr (Or.inr (Or.inr (Or.inl (y1_))))))))))))))), hfσ115 k_ j_ (fun w_ => h_ (w_.elim (fun x0_ => Or.inr (Or.inr (Or.inl (x0_)))) (fun y0_ => y0_.elim (fun x1_ => Or.inr (Or.inr (Or.inr (Or.inl (x1_))))) (fun y1_ => y1_.elim (fun x2_ => Or.inr (Or.inr (Or.inr (Or.inr (Or.inl (x2_)))))) (fun y2_ => y2_.elim (fun x3_ => Or.inr (Or.inr (Or.inr (Or.inr (Or.inr (Or.inl (x3_))))))) (fun y3_ => Or.inr (Or.inr (Or.inr (Or.inr (Or.inr (Or.inr (Or.inl (y3_))))))))))))), eσ4, dk_up_n (show ¬ (k_ = 141 ∧ j_ = 43) from fun q_ => h_ (Or.inr (Or.inr (Or.inr (Or.inr (Or.inr (Or.inr (Or.inr (Or.inr (Or.inl (q_)))))))))))]), ⟨PX_put hP gi214 hn.symm hp0.symm hp1 (fun k_ j_ h_ => by rw [eσ204, dk_up_n (show ¬ (k_ = 141 ∧ j_ = 44) by omega), hfσ200 k_ j_ (by omega), hfσ115 k_ j_ (by omega), eσ4, dk_up_n (show ¬ (k_ = 141 ∧ j_ = 43) by omega)]) (fun j_ => by rw [eσ204, dk_up_n (show ¬ (164 = 141 ∧ j_ = 44) by omega), hfσ200 164 j_ (by omega), hfσ115 164 j_ (by omega), eσ4, dk_up_n (show ¬ (164 = 141 ∧ j_ = 43) by omega)]) (by omega) (by omega) (by omega) (by omega) (by omega) (by omega) (by omega) rfl (Or.inl (by omega)), Or.inr (by omega)⟩⟩
    · skip
      refine dk_iconst (pc' := 140) hE dX11_unit_139 (by decide) rfl ?_
      refine dk_goto (tgt := 144) hE dX11_unit_140 (by decide) ?_
      obtain ⟨v215, hv215⟩ : ∃ z : Int, z = v1 + 0 := ⟨_, rfl⟩
      refine dk_iadd (pc' := 145) hE dX11_unit_144 hv215.symm (by omega) rfl ?_
      refine pf_11_43 (pc' := 148) hE fl_X11_380 dX11_unit_145 is_141 (by omega) rfl (fun σ216 eσ216 => ?_)
      refine dk_iload (pc' := 150) hE dX11_unit_148 rfl rfl ?_
      refine dk_if_ne (tgt := 160) (pc' := 153) hE dX11_unit_150 (by decide) rfl (fun hc217 => ?_) (fun hc217 => ?_)
      · skip
        refine dk_iconst (pc' := 161) hE dX11_unit_160 (by decide) rfl ?_
        refine dk_istore (pc' := 163) (ls' := [(4, 141), (9, 0), (0, m), (0, x), (0, cc), (0, 0)]) hE dX11_unit_161 rfl (by decide) rfl ?_
        refine dk_aload_n (pc' := 164) hE dX11_unit_163 rfl rfl rfl ?_
        have hz218 : σ216 141 7 = σ 141 7 := by rw [eσ216, dk_up_n (show ¬ (141 = 141 ∧ 7 = 43) by omega)]
        have hz219 : σ216 141 3 = σ 141 3 := by rw [eσ216, dk_up_n (show ¬ (141 = 141 ∧ 3 = 43) by omega)]
        have gi220 : NX σ σ216 := NX_fr (NX_rf hT) (fun k_ j_ h_ => by rw [eσ216, dk_up_n (show ¬ (k_ = 141 ∧ j_ = 43) by omega)])
        have hz221 : σ216 141 3 = σ 141 3 := by rw [eσ216, dk_up_n (show ¬ (141 = 141 ∧ 3 = 43) by omega)]
        refine dk_cV (pc' := 167) (as := []) hE lk_X11_254 (ct_X11_next l G hGd) dX11_unit_164 rfl is_141 rfl (by decide) (Nat.le_of_ble_eq_true rfl) ⟨rfl, ((NX_tk gi220).2.1), (by omega)⟩ rfl (fun r223 σ222 hr223 hor223 => ?_)
        obtain ⟨rfl, hfσ222, hpr223⟩ := hr223
        have H164 := hpr223
        have gi224 : NX σ σ222 := NX_y gi220 hpr223
        have hy_ := H164.2.2.1
        have ht_ := hT.2.2 (by omega)
        refine dk_iload_n (pc' := 168) hE dX11_unit_167 rfl rfl rfl ?_
        refine dk_if_ne (tgt := 175) (pc' := 171) hE dX11_unit_168 (by decide) rfl (fun hc225 => ?_) (fun hc225 => ?_)
        · skip
          refine dk_aload_n (pc' := 176) hE dX11_unit_175 rfl rfl rfl ?_
          refine dk_iload_n (pc' := 177) hE dX11_unit_176 rfl rfl rfl ?_
          refine dk_if_eq (tgt := 184) (pc' := 180) hE dX11_unit_177 (by decide) rfl (fun hc226 => ?_) (fun hc226 => ?_)
          · skip
            refine dk_bipush (pc' := 186) hE dX11_unit_184 (by decide) rfl ?_
            refine dk_bipush (pc' := 188) hE dX11_unit_186 (by decide) rfl ?_
            have hz227 : σ222 141 45 = p := by rw [hfσ222 141 45 (by omega), eσ216, dk_up_n (show ¬ (141 = 141 ∧ 45 = 43) by omega), hp0]
            refine dk_cV (pc' := 191) (as := [(0, 7), (0, 126)]) hE lk_X11_395 (ct_X11_put l G hGd 7 126 p) dX11_unit_188 rfl is_141 rfl (by decide) (Nat.le_of_ble_eq_true rfl) ⟨rfl, (by omega), (by omega)⟩ rfl (fun r229 σ228 hr229 hor229 => ?_)
            obtain ⟨rfl, hfσ228, hpr229⟩ := hr229
            have H188 := hpr229
            refine dk_aload_n (pc' := 192) hE dX11_unit_191 rfl rfl rfl ?_
            refine dk_dup (pc' := 193) hE dX11_unit_192 (show (4 : Nat) ≠ 3 by decide) rfl ?_
            refine gf_11_44 (pc' := 196) hE fl_X11_392 dX11_unit_193 is_141 rfl (fun v230 hv230 htv230 hbv230 => ?_)
            have hq230 : v230 = σ 141 44 := by rw [hv230, hfσ228 141 44 (by omega), hfσ222 141 44 (by omega), eσ216, dk_up_n (show ¬ (141 = 141 ∧ 44 = 43) by omega)]
            refine dk_iconst (pc' := 197) hE dX11_unit_196 (by decide) rfl ?_
            obtain ⟨v231, hv231⟩ : ∃ z : Int, z = v230 + 1 := ⟨_, rfl⟩
            refine dk_iadd (pc' := 198) hE dX11_unit_197 hv231.symm (by omega) rfl ?_
            refine pf_11_44 (pc' := 201) hE fl_X11_392 dX11_unit_198 is_141 trivial rfl (fun σ232 eσ232 => ?_)
            refine dk_iconst (pc' := 202) hE dX11_unit_201 (by decide) rfl ?_
            have hz233 : σ232 141 42 = n := by rw [eσ232, dk_up_n (show ¬ (141 = 141 ∧ 42 = 44) by omega), hfσ228 141 42 (by omega), hfσ222 141 42 (by omega), eσ216, dk_up_n (show ¬ (141 = 141 ∧ 42 = 43) by omega), hn]
            have hz234 : σ232 141 43 = v215 := by rw [eσ232, dk_up_n (show ¬ (141 = 141 ∧ 43 = 44) by omega), hfσ228 141 43 (by omega), hfσ222 141 43 (by omega), eσ216, dk_up_s]
            have hz235 : σ232 141 44 = v231 := by rw [eσ232, dk_up_s]
            have hz236 : σ232 141 45 = p + 1 := by rw [eσ232, dk_up_n (show ¬ (141 = 141 ∧ 45 = 44) by omega), (hpr229.2.2).symm]
            have hz237 : σ232 141 6 = (σ222 141 6) := by rw [eσ232, dk_up_n (show ¬ (141 = 141 ∧ 6 = 44) by omega), hfσ228 141 6 (by omega)]
            have hz238 : σ232 141 4 = σ 141 4 := by rw [eσ232, dk_up_n (show ¬ (141 = 141 ∧ 4 = 44) by omega), hfσ228 141 4 (by omega), hfσ222 141 4 (by omega), eσ216, dk_up_n (show ¬ (141 = 141 ∧ 4 = 43) by omega)]
            have hz239 : σ232 166 p = 7 := by rw [eσ232, dk_up_n (show ¬ (166 = 141 ∧ p = 44) by omega), (hpr229.1).symm]
            have hz240 : σ232 167 p = 126 := by rw [eσ232, dk_up_n (show ¬ (167 = 141 ∧ p = 44) by omega), (hpr229.2.1).symm]
            have hz241 : σ232 164 (600 * r + n) = σ 164 (600 * r + n) := by rw [eσ232, dk_up_n (show ¬ (164 = 141 ∧ (600 * r + n) = 44) by omega), hfσ228 164 (600 * r + n) (by omega), hfσ222 164 (600 * r + n) (by omega), eσ216, dk_up_n (show ¬ (164 = 141 ∧ (600 * r + n) = 43) by omega)]
            have gi242 : NX σ σ232 := NX_fr gi224 (fun k_ j_ h_ => by rw [eσ232, dk_up_n (show ¬ (k_ = 141 ∧ j_ = 44) by omega), hfσ228 k_ j_ (by omega)])
            exact dk_zret (st := []) hE hR dX11_unit_202 (by omega) ⟨_, rfl, (fun k_ j_ h_ => by rw [eσ232, dk_up_n (show ¬ (k_ = 141 ∧ j_ = 44) from fun q_ => h_ (Or.inr (Or.inr (Or.inr (Or.inr (Or.inr (Or.inr (Or.inr (Or.inr (Or.inr (Or.inl (q_)))))))))))), hfσ228 k_ j_ (fun w_ => h_ (w_.elim (fun x0_ => Or.inr (Or.inr (Or.inr (Or.inr (Or.inr (Or.inr (Or.inr (Or.inr (Or.inr (Or.inr (Or.inr (dk_wr (lo := 164) (hi := 167) x0_.1 (by decide))))))))))))) (fun y0_ => y0_.elim (fun x1_ => Or.inr (Or.inr (Or.inr (Or.inr (Or.inr (Or.inr (Or.inr (Or.inr (Or.inr (Or.inr (Or.inr (dk_wr (lo := 164) (hi := 167) x1_.1 (by decide))))))))))))) (fun y1_ => Or.inr (Or.inr (Or.inr (Or.inr (Or.inr (Or.inr (Or.inr (Or.inr (Or.inr (Or.inr (Or.inl (y1_))))))))))))))), hfσ222 k_ j_ (fun w_ => h_ (w_.elim (fun x0_ => Or.inr (Or.inr (Or.inl (x0_)))) (fun y0_ => y0_.elim (fun x1_ => Or.inr (Or.inr (Or.inr (Or.inl (x1_))))) (fun y1_ => y1_.elim (fun x2_ => Or.inr (Or.inr (Or.inr (Or.inr (Or.inl (x2_)))))) (fun y2_ => y2_.elim (fun x3_ => Or.inr (Or.inr (Or.inr (Or.inr (Or.inr (Or.inl (x3_))))))) (fun y3_ => Or.inr (Or.inr (Or.inr (Or.inr (Or.inr (Or.inr (Or.inl (y3_))))))))))))), eσ216, dk_up_n (show ¬ (k_ = 141 ∧ j_ = 43) from fun q_ => h_ (Or.inr (Or.inr (Or.inr (Or.inr (Or.inr (Or.inr (Or.inr (Or.inr (Or.inl (q_)))))))))))]), ⟨PX_put hP gi242 hn.symm hp0.symm hp1 (fun k_ j_ h_ => by rw [eσ232, dk_up_n (show ¬ (k_ = 141 ∧ j_ = 44) by omega), hfσ228 k_ j_ (by omega), hfσ222 k_ j_ (by omega), eσ216, dk_up_n (show ¬ (k_ = 141 ∧ j_ = 43) by omega)]) (fun j_ => by rw [eσ232, dk_up_n (show ¬ (164 = 141 ∧ j_ = 44) by omega), hfσ228 164 j_ (by omega), hfσ222 164 j_ (by omega), eσ216, dk_up_n (show ¬ (164 = 141 ∧ j_ = 43) by omega)]) (by omega) (by omega) (by omega) (by omega) (by omega) (by omega) (by omega) rfl (Or.inl (by omega)), Or.inr (by omega)⟩⟩
          · skip
            refine dk_iconst (pc' := 181) hE dX11_unit_180 (by decide) rfl ?_
            refine dk_goto (tgt := 186) hE dX11_unit_181 (by decide) ?_
            refine dk_bipush (pc' := 188) hE dX11_unit_186 (by decide) rfl ?_
            have hz243 : σ222 141 45 = p := by rw [hfσ222 141 45 (by omega), eσ216, dk_up_n (show ¬ (141 = 141 ∧ 45 = 43) by omega), hp0]
            refine dk_cV (pc' := 191) (as := [(0, 3), (0, 126)]) hE lk_X11_395 (ct_X11_put l G hGd 3 126 p) dX11_unit_188 rfl is_141 rfl (by decide) (Nat.le_of_ble_eq_true rfl) ⟨rfl, (by omega), (by omega)⟩ rfl (fun r245 σ244 hr245 hor245 => ?_)
            obtain ⟨rfl, hfσ244, hpr245⟩ := hr245
            have H188 := hpr245
            refine dk_aload_n (pc' := 192) hE dX11_unit_191 rfl rfl rfl ?_
            refine dk_dup (pc' := 193) hE dX11_unit_192 (show (4 : Nat) ≠ 3 by decide) rfl ?_
            refine gf_11_44 (pc' := 196) hE fl_X11_392 dX11_unit_193 is_141 rfl (fun v246 hv246 htv246 hbv246 => ?_)
            have hq246 : v246 = σ 141 44 := by rw [hv246, hfσ244 141 44 (by omega), hfσ222 141 44 (by omega), eσ216, dk_up_n (show ¬ (141 = 141 ∧ 44 = 43) by omega)]
            refine dk_iconst (pc' := 197) hE dX11_unit_196 (by decide) rfl ?_
            obtain ⟨v247, hv247⟩ : ∃ z : Int, z = v246 + 1 := ⟨_, rfl⟩
            refine dk_iadd (pc' := 198) hE dX11_unit_197 hv247.symm (by omega) rfl ?_
            refine pf_11_44 (pc' := 201) hE fl_X11_392 dX11_unit_198 is_141 trivial rfl (fun σ248 eσ248 => ?_)
            refine dk_iconst (pc' := 202) hE dX11_unit_201 (by decide) rfl ?_
            have hz249 : σ248 141 42 = n := by rw [eσ248, dk_up_n (show ¬ (141 = 141 ∧ 42 = 44) by omega), hfσ244 141 42 (by omega), hfσ222 141 42 (by omega), eσ216, dk_up_n (show ¬ (141 = 141 ∧ 42 = 43) by omega), hn]
            have hz250 : σ248 141 43 = v215 := by rw [eσ248, dk_up_n (show ¬ (141 = 141 ∧ 43 = 44) by omega), hfσ244 141 43 (by omega), hfσ222 141 43 (by omega), eσ216, dk_up_s]
            have hz251 : σ248 141 44 = v247 := by rw [eσ248, dk_up_s]
            have hz252 : σ248 141 45 = p + 1 := by rw [eσ248, dk_up_n (show ¬ (141 = 141 ∧ 45 = 44) by omega), (hpr245.2.2).symm]
            have hz253 : σ248 141 6 = (σ222 141 6) := by rw [eσ248, dk_up_n (show ¬ (141 = 141 ∧ 6 = 44) by omega), hfσ244 141 6 (by omega)]
            have hz254 : σ248 141 4 = σ 141 4 := by rw [eσ248, dk_up_n (show ¬ (141 = 141 ∧ 4 = 44) by omega), hfσ244 141 4 (by omega), hfσ222 141 4 (by omega), eσ216, dk_up_n (show ¬ (141 = 141 ∧ 4 = 43) by omega)]
            have hz255 : σ248 166 p = 3 := by rw [eσ248, dk_up_n (show ¬ (166 = 141 ∧ p = 44) by omega), (hpr245.1).symm]
            have hz256 : σ248 167 p = 126 := by rw [eσ248, dk_up_n (show ¬ (167 = 141 ∧ p = 44) by omega), (hpr245.2.1).symm]
            have hz257 : σ248 164 (600 * r + n) = σ 164 (600 * r + n) := by rw [eσ248, dk_up_n (show ¬ (164 = 141 ∧ (600 * r + n) = 44) by omega), hfσ244 164 (600 * r + n) (by omega), hfσ222 164 (600 * r + n) (by omega), eσ216, dk_up_n (show ¬ (164 = 141 ∧ (600 * r + n) = 43) by omega)]
            have gi258 : NX σ σ248 := NX_fr gi224 (fun k_ j_ h_ => by rw [eσ248, dk_up_n (show ¬ (k_ = 141 ∧ j_ = 44) by omega), hfσ244 k_ j_ (by omega)])
            exact dk_zret (st := []) hE hR dX11_unit_202 (by omega) ⟨_, rfl, (fun k_ j_ h_ => by rw [eσ248, dk_up_n (show ¬ (k_ = 141 ∧ j_ = 44) from fun q_ => h_ (Or.inr (Or.inr (Or.inr (Or.inr (Or.inr (Or.inr (Or.inr (Or.inr (Or.inr (Or.inl (q_)))))))))))), hfσ244 k_ j_ (fun w_ => h_ (w_.elim (fun x0_ => Or.inr (Or.inr (Or.inr (Or.inr (Or.inr (Or.inr (Or.inr (Or.inr (Or.inr (Or.inr (Or.inr (dk_wr (lo := 164) (hi := 167) x0_.1 (by decide))))))))))))) (fun y0_ => y0_.elim (fun x1_ => Or.inr (Or.inr (Or.inr (Or.inr (Or.inr (Or.inr (Or.inr (Or.inr (Or.inr (Or.inr (Or.inr (dk_wr (lo := 164) (hi := 167) x1_.1 (by decide))))))))))))) (fun y1_ => Or.inr (Or.inr (Or.inr (Or.inr (Or.inr (Or.inr (Or.inr (Or.inr (Or.inr (Or.inr (Or.inl (y1_))))))))))))))), hfσ222 k_ j_ (fun w_ => h_ (w_.elim (fun x0_ => Or.inr (Or.inr (Or.inl (x0_)))) (fun y0_ => y0_.elim (fun x1_ => Or.inr (Or.inr (Or.inr (Or.inl (x1_))))) (fun y1_ => y1_.elim (fun x2_ => Or.inr (Or.inr (Or.inr (Or.inr (Or.inl (x2_)))))) (fun y2_ => y2_.elim (fun x3_ => Or.inr (Or.inr (Or.inr (Or.inr (Or.inr (Or.inl (x3_))))))) (fun y3_ => Or.inr (Or.inr (Or.inr (Or.inr (Or.inr (Or.inr (Or.inl (y3_))))))))))))), eσ216, dk_up_n (show ¬ (k_ = 141 ∧ j_ = 43) from fun q_ => h_ (Or.inr (Or.inr (Or.inr (Or.inr (Or.inr (Or.inr (Or.inr (Or.inr (Or.inl (q_)))))))))))]), ⟨PX_put hP gi258 hn.symm hp0.symm hp1 (fun k_ j_ h_ => by rw [eσ248, dk_up_n (show ¬ (k_ = 141 ∧ j_ = 44) by omega), hfσ244 k_ j_ (by omega), hfσ222 k_ j_ (by omega), eσ216, dk_up_n (show ¬ (k_ = 141 ∧ j_ = 43) by omega)]) (fun j_ => by rw [eσ248, dk_up_n (show ¬ (164 = 141 ∧ j_ = 44) by omega), hfσ244 164 j_ (by omega), hfσ222 164 j_ (by omega), eσ216, dk_up_n (show ¬ (164 = 141 ∧ j_ = 43) by omega)]) (by omega) (by omega) (by omega) (by omega) (by omega) (by omega) (by omega) rfl (Or.inl (by omega)), Or.inr (by omega)⟩⟩
        · skip
          refine dk_iload_n (pc' := 172) hE dX11_unit_171 rfl rfl rfl ?_
          refine dk_if_eq (tgt := 203) (pc' := 175) hE dX11_unit_172 (by decide) rfl (fun hc259 => ?_) (fun hc259 => ?_)
          · skip
            refine dk_aload_n (pc' := 204) hE dX11_unit_203 rfl rfl rfl ?_
            refine dk_iload (pc' := 206) hE dX11_unit_204 rfl rfl ?_
            refine dk_if_ne (tgt := 214) (pc' := 209) hE dX11_unit_206 (by decide) rfl (fun hc260 => ?_) (fun hc260 => ?_)
            · skip
              refine dk_iload (pc' := 216) hE dX11_unit_214 rfl rfl ?_
              refine dk_iload (pc' := 218) hE dX11_unit_216 rfl rfl ?_
              have hz261 : σ222 141 41 = σ 141 41 := by rw [hfσ222 141 41 (by omega), eσ216, dk_up_n (show ¬ (141 = 141 ∧ 41 = 43) by omega)]
              have hz262 : σ222 141 42 = n := by rw [hfσ222 141 42 (by omega), eσ216, dk_up_n (show ¬ (141 = 141 ∧ 42 = 43) by omega), hn]
              refine dk_cV (pc' := 221) (as := [(0, cc), (0, 0)]) hE lk_X11_407 (ct_X11_sign0 l G hGd cc 0 r n (600 * r + n)) dX11_unit_218 rfl is_141 rfl (by decide) (Nat.le_of_ble_eq_true rfl) ⟨rfl, (by omega), (by omega), (by omega), (by omega), (by omega)⟩ rfl (fun r264 σ263 hr264 hor264 => ?_)
              obtain ⟨rfl, hfσ263, hpr264⟩ := hr264
              have H218 := hpr264
              refine dk_iconst (pc' := 222) hE dX11_unit_221 (by decide) rfl ?_
              have hz265 : σ263 141 42 = n + 1 := by rw [(hpr264.2).symm]
              have hz266 : σ263 141 43 = v215 := by rw [hfσ263 141 43 (by omega), hfσ222 141 43 (by omega), eσ216, dk_up_s]
              have hz267 : σ263 141 44 = σ 141 44 := by rw [hfσ263 141 44 (by omega), hfσ222 141 44 (by omega), eσ216, dk_up_n (show ¬ (141 = 141 ∧ 44 = 43) by omega)]
              have hz268 : σ263 141 45 = p := by rw [hfσ263 141 45 (by omega), hfσ222 141 45 (by omega), eσ216, dk_up_n (show ¬ (141 = 141 ∧ 45 = 43) by omega), hp0]
              have hz269 : σ263 141 6 = (σ222 141 6) := by rw [hfσ263 141 6 (by omega)]
              have hz270 : σ263 141 4 = σ 141 4 := by rw [hfσ263 141 4 (by omega), hfσ222 141 4 (by omega), eσ216, dk_up_n (show ¬ (141 = 141 ∧ 4 = 43) by omega)]
              have hz271 : σ263 166 p = σ 166 p := by rw [hfσ263 166 p (by omega), hfσ222 166 p (by omega), eσ216, dk_up_n (show ¬ (166 = 141 ∧ p = 43) by omega)]
              have hz272 : σ263 167 p = σ 167 p := by rw [hfσ263 167 p (by omega), hfσ222 167 p (by omega), eσ216, dk_up_n (show ¬ (167 = 141 ∧ p = 43) by omega)]
              have hz273 : σ263 164 (600 * r + n) = cc := by rw [(hpr264.1).symm]
              have gi274 : NX σ σ263 := NX_fr gi224 (fun k_ j_ h_ => by rw [hfσ263 k_ j_ (by omega)])
              exact dk_zret (st := []) hE hR dX11_unit_222 (by omega) ⟨_, rfl, (fun k_ j_ h_ => by rw [hfσ263 k_ j_ (fun w_ => h_ (w_.elim (fun x0_ => Or.inr (Or.inr (Or.inr (Or.inr (Or.inr (Or.inr (Or.inr (Or.inr (Or.inr (Or.inr (Or.inr (dk_wr (lo := 164) (hi := 167) x0_.1 (by decide))))))))))))) (fun y0_ => y0_.elim (fun x1_ => Or.inr (Or.inr (Or.inr (Or.inr (Or.inr (Or.inr (Or.inr (Or.inr (Or.inr (Or.inr (Or.inr (dk_wr (lo := 164) (hi := 167) x1_.1 (by decide))))))))))))) (fun y1_ => Or.inr (Or.inr (Or.inr (Or.inr (Or.inr (Or.inr (Or.inr (Or.inl (y1_)))))))))))), hfσ222 k_ j_ (fun w_ => h_ (w_.elim (fun x0_ => Or.inr (Or.inr (Or.inl (x0_)))) (fun y0_ => y0_.elim (fun x1_ => Or.inr (Or.inr (Or.inr (Or.inl (x1_))))) (fun y1_ => y1_.elim (fun x2_ => Or.inr (Or.inr (Or.inr (Or.inr (Or.inl (x2_)))))) (fun y2_ => y2_.elim (fun x3_ => Or.inr (Or.inr (Or.inr (Or.inr (Or.inr (Or.inl (x3_))))))) (fun y3_ => Or.inr (Or.inr (Or.inr (Or.inr (Or.inr (Or.inr (Or.inl (y3_))))))))))))), eσ216, dk_up_n (show ¬ (k_ = 141 ∧ j_ = 43) from fun q_ => h_ (Or.inr (Or.inr (Or.inr (Or.inr (Or.inr (Or.inr (Or.inr (Or.inr (Or.inl (q_)))))))))))]), ⟨PX_op hP gi274 hn.symm hp0.symm hp1 (fun k_ j_ h_ => by rw [hfσ263 k_ j_ (by omega), hfσ222 k_ j_ (by omega), eσ216, dk_up_n (show ¬ (k_ = 141 ∧ j_ = 43) by omega)]) (fun j_ => by rw [hfσ263 166 j_ (by omega), hfσ222 166 j_ (by omega), eσ216, dk_up_n (show ¬ (166 = 141 ∧ j_ = 43) by omega)]) (fun j_ => by rw [hfσ263 167 j_ (by omega), hfσ222 167 j_ (by omega), eσ216, dk_up_n (show ¬ (167 = 141 ∧ j_ = 43) by omega)]) (by omega) (by omega) (by omega) (by omega) (by omega) (by omega) (by omega) (by omega), Or.inr (by omega)⟩⟩
            · skip
              refine dk_bipush (pc' := 211) hE dX11_unit_209 (by decide) rfl ?_
              refine dk_goto (tgt := 216) hE dX11_unit_211 (by decide) ?_
              refine dk_iload (pc' := 218) hE dX11_unit_216 rfl rfl ?_
              have hz275 : σ222 141 41 = σ 141 41 := by rw [hfσ222 141 41 (by omega), eσ216, dk_up_n (show ¬ (141 = 141 ∧ 41 = 43) by omega)]
              have hz276 : σ222 141 42 = n := by rw [hfσ222 141 42 (by omega), eσ216, dk_up_n (show ¬ (141 = 141 ∧ 42 = 43) by omega), hn]
              refine dk_cV (pc' := 221) (as := [(0, 110), (0, 0)]) hE lk_X11_407 (ct_X11_sign0 l G hGd 110 0 r n (600 * r + n)) dX11_unit_218 rfl is_141 rfl (by decide) (Nat.le_of_ble_eq_true rfl) ⟨rfl, (by omega), (by omega), (by omega), (by omega), (by omega)⟩ rfl (fun r278 σ277 hr278 hor278 => ?_)
              obtain ⟨rfl, hfσ277, hpr278⟩ := hr278
              have H218 := hpr278
              refine dk_iconst (pc' := 222) hE dX11_unit_221 (by decide) rfl ?_
              have hz279 : σ277 141 42 = n + 1 := by rw [(hpr278.2).symm]
              have hz280 : σ277 141 43 = v215 := by rw [hfσ277 141 43 (by omega), hfσ222 141 43 (by omega), eσ216, dk_up_s]
              have hz281 : σ277 141 44 = σ 141 44 := by rw [hfσ277 141 44 (by omega), hfσ222 141 44 (by omega), eσ216, dk_up_n (show ¬ (141 = 141 ∧ 44 = 43) by omega)]
              have hz282 : σ277 141 45 = p := by rw [hfσ277 141 45 (by omega), hfσ222 141 45 (by omega), eσ216, dk_up_n (show ¬ (141 = 141 ∧ 45 = 43) by omega), hp0]
              have hz283 : σ277 141 6 = (σ222 141 6) := by rw [hfσ277 141 6 (by omega)]
              have hz284 : σ277 141 4 = σ 141 4 := by rw [hfσ277 141 4 (by omega), hfσ222 141 4 (by omega), eσ216, dk_up_n (show ¬ (141 = 141 ∧ 4 = 43) by omega)]
              have hz285 : σ277 166 p = σ 166 p := by rw [hfσ277 166 p (by omega), hfσ222 166 p (by omega), eσ216, dk_up_n (show ¬ (166 = 141 ∧ p = 43) by omega)]
              have hz286 : σ277 167 p = σ 167 p := by rw [hfσ277 167 p (by omega), hfσ222 167 p (by omega), eσ216, dk_up_n (show ¬ (167 = 141 ∧ p = 43) by omega)]
              have hz287 : σ277 164 (600 * r + n) = 110 := by rw [(hpr278.1).symm]
              have gi288 : NX σ σ277 := NX_fr gi224 (fun k_ j_ h_ => by rw [hfσ277 k_ j_ (by omega)])
              exact dk_zret (st := []) hE hR dX11_unit_222 (by omega) ⟨_, rfl, (fun k_ j_ h_ => by rw [hfσ277 k_ j_ (fun w_ => h_ (w_.elim (fun x0_ => Or.inr (Or.inr (Or.inr (Or.inr (Or.inr (Or.inr (Or.inr (Or.inr (Or.inr (Or.inr (Or.inr (dk_wr (lo := 164) (hi := 167) x0_.1 (by decide))))))))))))) (fun y0_ => y0_.elim (fun x1_ => Or.inr (Or.inr (Or.inr (Or.inr (Or.inr (Or.inr (Or.inr (Or.inr (Or.inr (Or.inr (Or.inr (dk_wr (lo := 164) (hi := 167) x1_.1 (by decide))))))))))))) (fun y1_ => Or.inr (Or.inr (Or.inr (Or.inr (Or.inr (Or.inr (Or.inr (Or.inl (y1_)))))))))))), hfσ222 k_ j_ (fun w_ => h_ (w_.elim (fun x0_ => Or.inr (Or.inr (Or.inl (x0_)))) (fun y0_ => y0_.elim (fun x1_ => Or.inr (Or.inr (Or.inr (Or.inl (x1_))))) (fun y1_ => y1_.elim (fun x2_ => Or.inr (Or.inr (Or.inr (Or.inr (Or.inl (x2_)))))) (fun y2_ => y2_.elim (fun x3_ => Or.inr (Or.inr (Or.inr (Or.inr (Or.inr (Or.inl (x3_))))))) (fun y3_ => Or.inr (Or.inr (Or.inr (Or.inr (Or.inr (Or.inr (Or.inl (y3_))))))))))))), eσ216, dk_up_n (show ¬ (k_ = 141 ∧ j_ = 43) from fun q_ => h_ (Or.inr (Or.inr (Or.inr (Or.inr (Or.inr (Or.inr (Or.inr (Or.inr (Or.inl (q_)))))))))))]), ⟨PX_op hP gi288 hn.symm hp0.symm hp1 (fun k_ j_ h_ => by rw [hfσ277 k_ j_ (by omega), hfσ222 k_ j_ (by omega), eσ216, dk_up_n (show ¬ (k_ = 141 ∧ j_ = 43) by omega)]) (fun j_ => by rw [hfσ277 166 j_ (by omega), hfσ222 166 j_ (by omega), eσ216, dk_up_n (show ¬ (166 = 141 ∧ j_ = 43) by omega)]) (fun j_ => by rw [hfσ277 167 j_ (by omega), hfσ222 167 j_ (by omega), eσ216, dk_up_n (show ¬ (167 = 141 ∧ j_ = 43) by omega)]) (by omega) (by omega) (by omega) (by omega) (by omega) (by omega) (by omega) (by omega), Or.inr (by omega)⟩⟩
          · skip
            refine dk_aload_n (pc' := 176) hE dX11_unit_175 rfl rfl rfl ?_
            refine dk_iload_n (pc' := 177) hE dX11_unit_176 rfl rfl rfl ?_
            refine dk_if_eq (tgt := 184) (pc' := 180) hE dX11_unit_177 (by decide) rfl (fun hc289 => ?_) (fun hc289 => ?_)
            · skip
              refine dk_bipush (pc' := 186) hE dX11_unit_184 (by decide) rfl ?_
              refine dk_bipush (pc' := 188) hE dX11_unit_186 (by decide) rfl ?_
              have hz290 : σ222 141 45 = p := by rw [hfσ222 141 45 (by omega), eσ216, dk_up_n (show ¬ (141 = 141 ∧ 45 = 43) by omega), hp0]
              refine dk_cV (pc' := 191) (as := [(0, 7), (0, 126)]) hE lk_X11_395 (ct_X11_put l G hGd 7 126 p) dX11_unit_188 rfl is_141 rfl (by decide) (Nat.le_of_ble_eq_true rfl) ⟨rfl, (by omega), (by omega)⟩ rfl (fun r292 σ291 hr292 hor292 => ?_)
              obtain ⟨rfl, hfσ291, hpr292⟩ := hr292
              have H188 := hpr292
              refine dk_aload_n (pc' := 192) hE dX11_unit_191 rfl rfl rfl ?_
              refine dk_dup (pc' := 193) hE dX11_unit_192 (show (4 : Nat) ≠ 3 by decide) rfl ?_
              refine gf_11_44 (pc' := 196) hE fl_X11_392 dX11_unit_193 is_141 rfl (fun v293 hv293 htv293 hbv293 => ?_)
              have hq293 : v293 = σ 141 44 := by rw [hv293, hfσ291 141 44 (by omega), hfσ222 141 44 (by omega), eσ216, dk_up_n (show ¬ (141 = 141 ∧ 44 = 43) by omega)]
              refine dk_iconst (pc' := 197) hE dX11_unit_196 (by decide) rfl ?_
              obtain ⟨v294, hv294⟩ : ∃ z : Int, z = v293 + 1 := ⟨_, rfl⟩
              refine dk_iadd (pc' := 198) hE dX11_unit_197 hv294.symm (by omega) rfl ?_
              refine pf_11_44 (pc' := 201) hE fl_X11_392 dX11_unit_198 is_141 trivial rfl (fun σ295 eσ295 => ?_)
              refine dk_iconst (pc' := 202) hE dX11_unit_201 (by decide) rfl ?_
              have hz296 : σ295 141 42 = n := by rw [eσ295, dk_up_n (show ¬ (141 = 141 ∧ 42 = 44) by omega), hfσ291 141 42 (by omega), hfσ222 141 42 (by omega), eσ216, dk_up_n (show ¬ (141 = 141 ∧ 42 = 43) by omega), hn]
              have hz297 : σ295 141 43 = v215 := by rw [eσ295, dk_up_n (show ¬ (141 = 141 ∧ 43 = 44) by omega), hfσ291 141 43 (by omega), hfσ222 141 43 (by omega), eσ216, dk_up_s]
              have hz298 : σ295 141 44 = v294 := by rw [eσ295, dk_up_s]
              have hz299 : σ295 141 45 = p + 1 := by rw [eσ295, dk_up_n (show ¬ (141 = 141 ∧ 45 = 44) by omega), (hpr292.2.2).symm]
              have hz300 : σ295 141 6 = (σ222 141 6) := by rw [eσ295, dk_up_n (show ¬ (141 = 141 ∧ 6 = 44) by omega), hfσ291 141 6 (by omega)]
              have hz301 : σ295 141 4 = σ 141 4 := by rw [eσ295, dk_up_n (show ¬ (141 = 141 ∧ 4 = 44) by omega), hfσ291 141 4 (by omega), hfσ222 141 4 (by omega), eσ216, dk_up_n (show ¬ (141 = 141 ∧ 4 = 43) by omega)]
              have hz302 : σ295 166 p = 7 := by rw [eσ295, dk_up_n (show ¬ (166 = 141 ∧ p = 44) by omega), (hpr292.1).symm]
              have hz303 : σ295 167 p = 126 := by rw [eσ295, dk_up_n (show ¬ (167 = 141 ∧ p = 44) by omega), (hpr292.2.1).symm]
              have hz304 : σ295 164 (600 * r + n) = σ 164 (600 * r + n) := by rw [eσ295, dk_up_n (show ¬ (164 = 141 ∧ (600 * r + n) = 44) by omega), hfσ291 164 (600 * r + n) (by omega), hfσ222 164 (600 * r + n) (by omega), eσ216, dk_up_n (show ¬ (164 = 141 ∧ (600 * r + n) = 43) by omega)]
              have gi305 : NX σ σ295 := NX_fr gi224 (fun k_ j_ h_ => by rw [eσ295, dk_up_n (show ¬ (k_ = 141 ∧ j_ = 44) by omega), hfσ291 k_ j_ (by omega)])
              exact dk_zret (st := []) hE hR dX11_unit_202 (by omega) ⟨_, rfl, (fun k_ j_ h_ => by rw [eσ295, dk_up_n (show ¬ (k_ = 141 ∧ j_ = 44) from fun q_ => h_ (Or.inr (Or.inr (Or.inr (Or.inr (Or.inr (Or.inr (Or.inr (Or.inr (Or.inr (Or.inl (q_)))))))))))), hfσ291 k_ j_ (fun w_ => h_ (w_.elim (fun x0_ => Or.inr (Or.inr (Or.inr (Or.inr (Or.inr (Or.inr (Or.inr (Or.inr (Or.inr (Or.inr (Or.inr (dk_wr (lo := 164) (hi := 167) x0_.1 (by decide))))))))))))) (fun y0_ => y0_.elim (fun x1_ => Or.inr (Or.inr (Or.inr (Or.inr (Or.inr (Or.inr (Or.inr (Or.inr (Or.inr (Or.inr (Or.inr (dk_wr (lo := 164) (hi := 167) x1_.1 (by decide))))))))))))) (fun y1_ => Or.inr (Or.inr (Or.inr (Or.inr (Or.inr (Or.inr (Or.inr (Or.inr (Or.inr (Or.inr (Or.inl (y1_))))))))))))))), hfσ222 k_ j_ (fun w_ => h_ (w_.elim (fun x0_ => Or.inr (Or.inr (Or.inl (x0_)))) (fun y0_ => y0_.elim (fun x1_ => Or.inr (Or.inr (Or.inr (Or.inl (x1_))))) (fun y1_ => y1_.elim (fun x2_ => Or.inr (Or.inr (Or.inr (Or.inr (Or.inl (x2_)))))) (fun y2_ => y2_.elim (fun x3_ => Or.inr (Or.inr (Or.inr (Or.inr (Or.inr (Or.inl (x3_))))))) (fun y3_ => Or.inr (Or.inr (Or.inr (Or.inr (Or.inr (Or.inr (Or.inl (y3_))))))))))))), eσ216, dk_up_n (show ¬ (k_ = 141 ∧ j_ = 43) from fun q_ => h_ (Or.inr (Or.inr (Or.inr (Or.inr (Or.inr (Or.inr (Or.inr (Or.inr (Or.inl (q_)))))))))))]), ⟨PX_put hP gi305 hn.symm hp0.symm hp1 (fun k_ j_ h_ => by rw [eσ295, dk_up_n (show ¬ (k_ = 141 ∧ j_ = 44) by omega), hfσ291 k_ j_ (by omega), hfσ222 k_ j_ (by omega), eσ216, dk_up_n (show ¬ (k_ = 141 ∧ j_ = 43) by omega)]) (fun j_ => by rw [eσ295, dk_up_n (show ¬ (164 = 141 ∧ j_ = 44) by omega), hfσ291 164 j_ (by omega), hfσ222 164 j_ (by omega), eσ216, dk_up_n (show ¬ (164 = 141 ∧ j_ = 43) by omega)]) (by omega) (by omega) (by omega) (by omega) (by omega) (by omega) (by omega) rfl (Or.inl (by omega)), Or.inr (by omega)⟩⟩
            · skip
              refine dk_iconst (pc' := 181) hE dX11_unit_180 (by decide) rfl ?_
              refine dk_goto (tgt := 186) hE dX11_unit_181 (by decide) ?_
              refine dk_bipush (pc' := 188) hE dX11_unit_186 (by decide) rfl ?_
              have hz306 : σ222 141 45 = p := by rw [hfσ222 141 45 (by omega), eσ216, dk_up_n (show ¬ (141 = 141 ∧ 45 = 43) by omega), hp0]
              refine dk_cV (pc' := 191) (as := [(0, 3), (0, 126)]) hE lk_X11_395 (ct_X11_put l G hGd 3 126 p) dX11_unit_188 rfl is_141 rfl (by decide) (Nat.le_of_ble_eq_true rfl) ⟨rfl, (by omega), (by omega)⟩ rfl (fun r308 σ307 hr308 hor308 => ?_)
              obtain ⟨rfl, hfσ307, hpr308⟩ := hr308
              have H188 := hpr308
              refine dk_aload_n (pc' := 192) hE dX11_unit_191 rfl rfl rfl ?_
              refine dk_dup (pc' := 193) hE dX11_unit_192 (show (4 : Nat) ≠ 3 by decide) rfl ?_
              refine gf_11_44 (pc' := 196) hE fl_X11_392 dX11_unit_193 is_141 rfl (fun v309 hv309 htv309 hbv309 => ?_)
              have hq309 : v309 = σ 141 44 := by rw [hv309, hfσ307 141 44 (by omega), hfσ222 141 44 (by omega), eσ216, dk_up_n (show ¬ (141 = 141 ∧ 44 = 43) by omega)]
              refine dk_iconst (pc' := 197) hE dX11_unit_196 (by decide) rfl ?_
              obtain ⟨v310, hv310⟩ : ∃ z : Int, z = v309 + 1 := ⟨_, rfl⟩
              refine dk_iadd (pc' := 198) hE dX11_unit_197 hv310.symm (by omega) rfl ?_
              refine pf_11_44 (pc' := 201) hE fl_X11_392 dX11_unit_198 is_141 trivial rfl (fun σ311 eσ311 => ?_)
              refine dk_iconst (pc' := 202) hE dX11_unit_201 (by decide) rfl ?_
              have hz312 : σ311 141 42 = n := by rw [eσ311, dk_up_n (show ¬ (141 = 141 ∧ 42 = 44) by omega), hfσ307 141 42 (by omega), hfσ222 141 42 (by omega), eσ216, dk_up_n (show ¬ (141 = 141 ∧ 42 = 43) by omega), hn]
              have hz313 : σ311 141 43 = v215 := by rw [eσ311, dk_up_n (show ¬ (141 = 141 ∧ 43 = 44) by omega), hfσ307 141 43 (by omega), hfσ222 141 43 (by omega), eσ216, dk_up_s]
              have hz314 : σ311 141 44 = v310 := by rw [eσ311, dk_up_s]
              have hz315 : σ311 141 45 = p + 1 := by rw [eσ311, dk_up_n (show ¬ (141 = 141 ∧ 45 = 44) by omega), (hpr308.2.2).symm]
              have hz316 : σ311 141 6 = (σ222 141 6) := by rw [eσ311, dk_up_n (show ¬ (141 = 141 ∧ 6 = 44) by omega), hfσ307 141 6 (by omega)]
              have hz317 : σ311 141 4 = σ 141 4 := by rw [eσ311, dk_up_n (show ¬ (141 = 141 ∧ 4 = 44) by omega), hfσ307 141 4 (by omega), hfσ222 141 4 (by omega), eσ216, dk_up_n (show ¬ (141 = 141 ∧ 4 = 43) by omega)]
              have hz318 : σ311 166 p = 3 := by rw [eσ311, dk_up_n (show ¬ (166 = 141 ∧ p = 44) by omega), (hpr308.1).symm]
              have hz319 : σ311 167 p = 126 := by rw [eσ311, dk_up_n (show ¬ (167 = 141 ∧ p = 44) by omega), (hpr308.2.1).symm]
              have hz320 : σ311 164 (600 * r + n) = σ 164 (600 * r + n) := by rw [eσ311, dk_up_n (show ¬ (164 = 141 ∧ (600 * r + n) = 44) by omega), hfσ307 164 (600 * r + n) (by omega), hfσ222 164 (600 * r + n) (by omega), eσ216, dk_up_n (show ¬ (164 = 141 ∧ (600 * r + n) = 43) by omega)]
              have gi321 : NX σ σ311 := NX_fr gi224 (fun k_ j_ h_ => by rw [eσ311, dk_up_n (show ¬ (k_ = 141 ∧ j_ = 44) by omega), hfσ307 k_ j_ (by omega)])
              exact dk_zret (st := []) hE hR dX11_unit_202 (by omega) ⟨_, rfl, (fun k_ j_ h_ => by rw [eσ311, dk_up_n (show ¬ (k_ = 141 ∧ j_ = 44) from fun q_ => h_ (Or.inr (Or.inr (Or.inr (Or.inr (Or.inr (Or.inr (Or.inr (Or.inr (Or.inr (Or.inl (q_)))))))))))), hfσ307 k_ j_ (fun w_ => h_ (w_.elim (fun x0_ => Or.inr (Or.inr (Or.inr (Or.inr (Or.inr (Or.inr (Or.inr (Or.inr (Or.inr (Or.inr (Or.inr (dk_wr (lo := 164) (hi := 167) x0_.1 (by decide))))))))))))) (fun y0_ => y0_.elim (fun x1_ => Or.inr (Or.inr (Or.inr (Or.inr (Or.inr (Or.inr (Or.inr (Or.inr (Or.inr (Or.inr (Or.inr (dk_wr (lo := 164) (hi := 167) x1_.1 (by decide))))))))))))) (fun y1_ => Or.inr (Or.inr (Or.inr (Or.inr (Or.inr (Or.inr (Or.inr (Or.inr (Or.inr (Or.inr (Or.inl (y1_))))))))))))))), hfσ222 k_ j_ (fun w_ => h_ (w_.elim (fun x0_ => Or.inr (Or.inr (Or.inl (x0_)))) (fun y0_ => y0_.elim (fun x1_ => Or.inr (Or.inr (Or.inr (Or.inl (x1_))))) (fun y1_ => y1_.elim (fun x2_ => Or.inr (Or.inr (Or.inr (Or.inr (Or.inl (x2_)))))) (fun y2_ => y2_.elim (fun x3_ => Or.inr (Or.inr (Or.inr (Or.inr (Or.inr (Or.inl (x3_))))))) (fun y3_ => Or.inr (Or.inr (Or.inr (Or.inr (Or.inr (Or.inr (Or.inl (y3_))))))))))))), eσ216, dk_up_n (show ¬ (k_ = 141 ∧ j_ = 43) from fun q_ => h_ (Or.inr (Or.inr (Or.inr (Or.inr (Or.inr (Or.inr (Or.inr (Or.inr (Or.inl (q_)))))))))))]), ⟨PX_put hP gi321 hn.symm hp0.symm hp1 (fun k_ j_ h_ => by rw [eσ311, dk_up_n (show ¬ (k_ = 141 ∧ j_ = 44) by omega), hfσ307 k_ j_ (by omega), hfσ222 k_ j_ (by omega), eσ216, dk_up_n (show ¬ (k_ = 141 ∧ j_ = 43) by omega)]) (fun j_ => by rw [eσ311, dk_up_n (show ¬ (164 = 141 ∧ j_ = 44) by omega), hfσ307 164 j_ (by omega), hfσ222 164 j_ (by omega), eσ216, dk_up_n (show ¬ (164 = 141 ∧ j_ = 43) by omega)]) (by omega) (by omega) (by omega) (by omega) (by omega) (by omega) (by omega) rfl (Or.inl (by omega)), Or.inr (by omega)⟩⟩
      · skip
        refine dk_aload_n (pc' := 154) hE dX11_unit_153 rfl rfl rfl ?_
        refine gf_11_9 (pc' := 157) hE fl_X11_240 dX11_unit_154 is_141 rfl (fun v322 hv322 htv322 hbv322 => ?_)
        refine dk_goto (tgt := 161) hE dX11_unit_157 (by decide) ?_
        refine dk_istore (pc' := 163) (ls' := [(4, 141), (9, 0), (0, m), (0, x), (0, cc), (0, v322)]) hE dX11_unit_161 rfl (by decide) rfl ?_
        refine dk_aload_n (pc' := 164) hE dX11_unit_163 rfl rfl rfl ?_
        have hz323 : σ216 141 7 = σ 141 7 := by rw [eσ216, dk_up_n (show ¬ (141 = 141 ∧ 7 = 43) by omega)]
        have hz324 : σ216 141 3 = σ 141 3 := by rw [eσ216, dk_up_n (show ¬ (141 = 141 ∧ 3 = 43) by omega)]
        have gi325 : NX σ σ216 := NX_fr (NX_rf hT) (fun k_ j_ h_ => by rw [eσ216, dk_up_n (show ¬ (k_ = 141 ∧ j_ = 43) by omega)])
        have hz326 : σ216 141 3 = σ 141 3 := by rw [eσ216, dk_up_n (show ¬ (141 = 141 ∧ 3 = 43) by omega)]
        refine dk_cV (pc' := 167) (as := []) hE lk_X11_254 (ct_X11_next l G hGd) dX11_unit_164 rfl is_141 rfl (by decide) (Nat.le_of_ble_eq_true rfl) ⟨rfl, ((NX_tk gi325).2.1), (by omega)⟩ rfl (fun r328 σ327 hr328 hor328 => ?_)
        obtain ⟨rfl, hfσ327, hpr328⟩ := hr328
        have H164 := hpr328
        have gi329 : NX σ σ327 := NX_y gi325 hpr328
        have hy_ := H164.2.2.1
        have ht_ := hT.2.2 (by omega)
        refine dk_iload_n (pc' := 168) hE dX11_unit_167 rfl rfl rfl ?_
        refine dk_if_ne (tgt := 175) (pc' := 171) hE dX11_unit_168 (by decide) rfl (fun hc330 => ?_) (fun hc330 => ?_)
        · skip
          refine dk_aload_n (pc' := 176) hE dX11_unit_175 rfl rfl rfl ?_
          refine dk_iload_n (pc' := 177) hE dX11_unit_176 rfl rfl rfl ?_
          refine dk_if_eq (tgt := 184) (pc' := 180) hE dX11_unit_177 (by decide) rfl (fun hc331 => ?_) (fun hc331 => ?_)
          · skip
            refine dk_bipush (pc' := 186) hE dX11_unit_184 (by decide) rfl ?_
            refine dk_bipush (pc' := 188) hE dX11_unit_186 (by decide) rfl ?_
            have hz332 : σ327 141 45 = p := by rw [hfσ327 141 45 (by omega), eσ216, dk_up_n (show ¬ (141 = 141 ∧ 45 = 43) by omega), hp0]
            refine dk_cV (pc' := 191) (as := [(0, 7), (0, 126)]) hE lk_X11_395 (ct_X11_put l G hGd 7 126 p) dX11_unit_188 rfl is_141 rfl (by decide) (Nat.le_of_ble_eq_true rfl) ⟨rfl, (by omega), (by omega)⟩ rfl (fun r334 σ333 hr334 hor334 => ?_)
            obtain ⟨rfl, hfσ333, hpr334⟩ := hr334
            have H188 := hpr334
            refine dk_aload_n (pc' := 192) hE dX11_unit_191 rfl rfl rfl ?_
            refine dk_dup (pc' := 193) hE dX11_unit_192 (show (4 : Nat) ≠ 3 by decide) rfl ?_
            refine gf_11_44 (pc' := 196) hE fl_X11_392 dX11_unit_193 is_141 rfl (fun v335 hv335 htv335 hbv335 => ?_)
            have hq335 : v335 = σ 141 44 := by rw [hv335, hfσ333 141 44 (by omega), hfσ327 141 44 (by omega), eσ216, dk_up_n (show ¬ (141 = 141 ∧ 44 = 43) by omega)]
            refine dk_iconst (pc' := 197) hE dX11_unit_196 (by decide) rfl ?_
            obtain ⟨v336, hv336⟩ : ∃ z : Int, z = v335 + 1 := ⟨_, rfl⟩
            refine dk_iadd (pc' := 198) hE dX11_unit_197 hv336.symm (by omega) rfl ?_
            refine pf_11_44 (pc' := 201) hE fl_X11_392 dX11_unit_198 is_141 trivial rfl (fun σ337 eσ337 => ?_)
            refine dk_iconst (pc' := 202) hE dX11_unit_201 (by decide) rfl ?_
            have hz338 : σ337 141 42 = n := by rw [eσ337, dk_up_n (show ¬ (141 = 141 ∧ 42 = 44) by omega), hfσ333 141 42 (by omega), hfσ327 141 42 (by omega), eσ216, dk_up_n (show ¬ (141 = 141 ∧ 42 = 43) by omega), hn]
            have hz339 : σ337 141 43 = v215 := by rw [eσ337, dk_up_n (show ¬ (141 = 141 ∧ 43 = 44) by omega), hfσ333 141 43 (by omega), hfσ327 141 43 (by omega), eσ216, dk_up_s]
            have hz340 : σ337 141 44 = v336 := by rw [eσ337, dk_up_s]
            have hz341 : σ337 141 45 = p + 1 := by rw [eσ337, dk_up_n (show ¬ (141 = 141 ∧ 45 = 44) by omega), (hpr334.2.2).symm]
            have hz342 : σ337 141 6 = (σ327 141 6) := by rw [eσ337, dk_up_n (show ¬ (141 = 141 ∧ 6 = 44) by omega), hfσ333 141 6 (by omega)]
            have hz343 : σ337 141 4 = σ 141 4 := by rw [eσ337, dk_up_n (show ¬ (141 = 141 ∧ 4 = 44) by omega), hfσ333 141 4 (by omega), hfσ327 141 4 (by omega), eσ216, dk_up_n (show ¬ (141 = 141 ∧ 4 = 43) by omega)]
            have hz344 : σ337 166 p = 7 := by rw [eσ337, dk_up_n (show ¬ (166 = 141 ∧ p = 44) by omega), (hpr334.1).symm]
            have hz345 : σ337 167 p = 126 := by rw [eσ337, dk_up_n (show ¬ (167 = 141 ∧ p = 44) by omega), (hpr334.2.1).symm]
            have hz346 : σ337 164 (600 * r + n) = σ 164 (600 * r + n) := by rw [eσ337, dk_up_n (show ¬ (164 = 141 ∧ (600 * r + n) = 44) by omega), hfσ333 164 (600 * r + n) (by omega), hfσ327 164 (600 * r + n) (by omega), eσ216, dk_up_n (show ¬ (164 = 141 ∧ (600 * r + n) = 43) by omega)]
            have gi347 : NX σ σ337 := NX_fr gi329 (fun k_ j_ h_ => by rw [eσ337, dk_up_n (show ¬ (k_ = 141 ∧ j_ = 44) by omega), hfσ333 k_ j_ (by omega)])
            exact dk_zret (st := []) hE hR dX11_unit_202 (by omega) ⟨_, rfl, (fun k_ j_ h_ => by rw [eσ337, dk_up_n (show ¬ (k_ = 141 ∧ j_ = 44) from fun q_ => h_ (Or.inr (Or.inr (Or.inr (Or.inr (Or.inr (Or.inr (Or.inr (Or.inr (Or.inr (Or.inl (q_)))))))))))), hfσ333 k_ j_ (fun w_ => h_ (w_.elim (fun x0_ => Or.inr (Or.inr (Or.inr (Or.inr (Or.inr (Or.inr (Or.inr (Or.inr (Or.inr (Or.inr (Or.inr (dk_wr (lo := 164) (hi := 167) x0_.1 (by decide))))))))))))) (fun y0_ => y0_.elim (fun x1_ => Or.inr (Or.inr (Or.inr (Or.inr (Or.inr (Or.inr (Or.inr (Or.inr (Or.inr (Or.inr (Or.inr (dk_wr (lo := 164) (hi := 167) x1_.1 (by decide))))))))))))) (fun y1_ => Or.inr (Or.inr (Or.inr (Or.inr (Or.inr (Or.inr (Or.inr (Or.inr (Or.inr (Or.inr (Or.inl (y1_))))))))))))))), hfσ327 k_ j_ (fun w_ => h_ (w_.elim (fun x0_ => Or.inr (Or.inr (Or.inl (x0_)))) (fun y0_ => y0_.elim (fun x1_ => Or.inr (Or.inr (Or.inr (Or.inl (x1_))))) (fun y1_ => y1_.elim (fun x2_ => Or.inr (Or.inr (Or.inr (Or.inr (Or.inl (x2_)))))) (fun y2_ => y2_.elim (fun x3_ => Or.inr (Or.inr (Or.inr (Or.inr (Or.inr (Or.inl (x3_))))))) (fun y3_ => Or.inr (Or.inr (Or.inr (Or.inr (Or.inr (Or.inr (Or.inl (y3_))))))))))))), eσ216, dk_up_n (show ¬ (k_ = 141 ∧ j_ = 43) from fun q_ => h_ (Or.inr (Or.inr (Or.inr (Or.inr (Or.inr (Or.inr (Or.inr (Or.inr (Or.inl (q_)))))))))))]), ⟨PX_put hP gi347 hn.symm hp0.symm hp1 (fun k_ j_ h_ => by rw [eσ337, dk_up_n (show ¬ (k_ = 141 ∧ j_ = 44) by omega), hfσ333 k_ j_ (by omega), hfσ327 k_ j_ (by omega), eσ216, dk_up_n (show ¬ (k_ = 141 ∧ j_ = 43) by omega)]) (fun j_ => by rw [eσ337, dk_up_n (show ¬ (164 = 141 ∧ j_ = 44) by omega), hfσ333 164 j_ (by omega), hfσ327 164 j_ (by omega), eσ216, dk_up_n (show ¬ (164 = 141 ∧ j_ = 43) by omega)]) (by omega) (by omega) (by omega) (by omega) (by omega) (by omega) (by omega) rfl (Or.inl (by omega)), Or.inr (by omega)⟩⟩
          · skip
            refine dk_iconst (pc' := 181) hE dX11_unit_180 (by decide) rfl ?_
            refine dk_goto (tgt := 186) hE dX11_unit_181 (by decide) ?_
            refine dk_bipush (pc' := 188) hE dX11_unit_186 (by decide) rfl ?_
            have hz348 : σ327 141 45 = p := by rw [hfσ327 141 45 (by omega), eσ216, dk_up_n (show ¬ (141 = 141 ∧ 45 = 43) by omega), hp0]
            refine dk_cV (pc' := 191) (as := [(0, 3), (0, 126)]) hE lk_X11_395 (ct_X11_put l G hGd 3 126 p) dX11_unit_188 rfl is_141 rfl (by decide) (Nat.le_of_ble_eq_true rfl) ⟨rfl, (by omega), (by omega)⟩ rfl (fun r350 σ349 hr350 hor350 => ?_)
            obtain ⟨rfl, hfσ349, hpr350⟩ := hr350
            have H188 := hpr350
            refine dk_aload_n (pc' := 192) hE dX11_unit_191 rfl rfl rfl ?_
            refine dk_dup (pc' := 193) hE dX11_unit_192 (show (4 : Nat) ≠ 3 by decide) rfl ?_
            refine gf_11_44 (pc' := 196) hE fl_X11_392 dX11_unit_193 is_141 rfl (fun v351 hv351 htv351 hbv351 => ?_)
            have hq351 : v351 = σ 141 44 := by rw [hv351, hfσ349 141 44 (by omega), hfσ327 141 44 (by omega), eσ216, dk_up_n (show ¬ (141 = 141 ∧ 44 = 43) by omega)]
            refine dk_iconst (pc' := 197) hE dX11_unit_196 (by decide) rfl ?_
            obtain ⟨v352, hv352⟩ : ∃ z : Int, z = v351 + 1 := ⟨_, rfl⟩
            refine dk_iadd (pc' := 198) hE dX11_unit_197 hv352.symm (by omega) rfl ?_
            refine pf_11_44 (pc' := 201) hE fl_X11_392 dX11_unit_198 is_141 trivial rfl (fun σ353 eσ353 => ?_)
            refine dk_iconst (pc' := 202) hE dX11_unit_201 (by decide) rfl ?_
            have hz354 : σ353 141 42 = n := by rw [eσ353, dk_up_n (show ¬ (141 = 141 ∧ 42 = 44) by omega), hfσ349 141 42 (by omega), hfσ327 141 42 (by omega), eσ216, dk_up_n (show ¬ (141 = 141 ∧ 42 = 43) by omega), hn]
            have hz355 : σ353 141 43 = v215 := by rw [eσ353, dk_up_n (show ¬ (141 = 141 ∧ 43 = 44) by omega), hfσ349 141 43 (by omega), hfσ327 141 43 (by omega), eσ216, dk_up_s]
            have hz356 : σ353 141 44 = v352 := by rw [eσ353, dk_up_s]
            have hz357 : σ353 141 45 = p + 1 := by rw [eσ353, dk_up_n (show ¬ (141 = 141 ∧ 45 = 44) by omega), (hpr350.2.2).symm]
            have hz358 : σ353 141 6 = (σ327 141 6) := by rw [eσ353, dk_up_n (show ¬ (141 = 141 ∧ 6 = 44) by omega), hfσ349 141 6 (by omega)]
            have hz359 : σ353 141 4 = σ 141 4 := by rw [eσ353, dk_up_n (show ¬ (141 = 141 ∧ 4 = 44) by omega), hfσ349 141 4 (by omega), hfσ327 141 4 (by omega), eσ216, dk_up_n (show ¬ (141 = 141 ∧ 4 = 43) by omega)]
            have hz360 : σ353 166 p = 3 := by rw [eσ353, dk_up_n (show ¬ (166 = 141 ∧ p = 44) by omega), (hpr350.1).symm]
            have hz361 : σ353 167 p = 126 := by rw [eσ353, dk_up_n (show ¬ (167 = 141 ∧ p = 44) by omega), (hpr350.2.1).symm]
            have hz362 : σ353 164 (600 * r + n) = σ 164 (600 * r + n) := by rw [eσ353, dk_up_n (show ¬ (164 = 141 ∧ (600 * r + n) = 44) by omega), hfσ349 164 (600 * r + n) (by omega), hfσ327 164 (600 * r + n) (by omega), eσ216, dk_up_n (show ¬ (164 = 141 ∧ (600 * r + n) = 43) by omega)]
            have gi363 : NX σ σ353 := NX_fr gi329 (fun k_ j_ h_ => by rw [eσ353, dk_up_n (show ¬ (k_ = 141 ∧ j_ = 44) by omega), hfσ349 k_ j_ (by omega)])
            exact dk_zret (st := []) hE hR dX11_unit_202 (by omega) ⟨_, rfl, (fun k_ j_ h_ => by rw [eσ353, dk_up_n (show ¬ (k_ = 141 ∧ j_ = 44) from fun q_ => h_ (Or.inr (Or.inr (Or.inr (Or.inr (Or.inr (Or.inr (Or.inr (Or.inr (Or.inr (Or.inl (q_)))))))))))), hfσ349 k_ j_ (fun w_ => h_ (w_.elim (fun x0_ => Or.inr (Or.inr (Or.inr (Or.inr (Or.inr (Or.inr (Or.inr (Or.inr (Or.inr (Or.inr (Or.inr (dk_wr (lo := 164) (hi := 167) x0_.1 (by decide))))))))))))) (fun y0_ => y0_.elim (fun x1_ => Or.inr (Or.inr (Or.inr (Or.inr (Or.inr (Or.inr (Or.inr (Or.inr (Or.inr (Or.inr (Or.inr (dk_wr (lo := 164) (hi := 167) x1_.1 (by decide))))))))))))) (fun y1_ => Or.inr (Or.inr (Or.inr (Or.inr (Or.inr (Or.inr (Or.inr (Or.inr (Or.inr (Or.inr (Or.inl (y1_))))))))))))))), hfσ327 k_ j_ (fun w_ => h_ (w_.elim (fun x0_ => Or.inr (Or.inr (Or.inl (x0_)))) (fun y0_ => y0_.elim (fun x1_ => Or.inr (Or.inr (Or.inr (Or.inl (x1_))))) (fun y1_ => y1_.elim (fun x2_ => Or.inr (Or.inr (Or.inr (Or.inr (Or.inl (x2_)))))) (fun y2_ => y2_.elim (fun x3_ => Or.inr (Or.inr (Or.inr (Or.inr (Or.inr (Or.inl (x3_))))))) (fun y3_ => Or.inr (Or.inr (Or.inr (Or.inr (Or.inr (Or.inr (Or.inl (y3_))))))))))))), eσ216, dk_up_n (show ¬ (k_ = 141 ∧ j_ = 43) from fun q_ => h_ (Or.inr (Or.inr (Or.inr (Or.inr (Or.inr (Or.inr (Or.inr (Or.inr (Or.inl (q_)))))))))))]), ⟨PX_put hP gi363 hn.symm hp0.symm hp1 (fun k_ j_ h_ => by rw [eσ353, dk_up_n (show ¬ (k_ = 141 ∧ j_ = 44) by omega), hfσ349 k_ j_ (by omega), hfσ327 k_ j_ (by omega), eσ216, dk_up_n (show ¬ (k_ = 141 ∧ j_ = 43) by omega)]) (fun j_ => by rw [eσ353, dk_up_n (show ¬ (164 = 141 ∧ j_ = 44) by omega), hfσ349 164 j_ (by omega), hfσ327 164 j_ (by omega), eσ216, dk_up_n (show ¬ (164 = 141 ∧ j_ = 43) by omega)]) (by omega) (by omega) (by omega) (by omega) (by omega) (by omega) (by omega) rfl (Or.inl (by omega)), Or.inr (by omega)⟩⟩
        · skip
          refine dk_iload_n (pc' := 172) hE dX11_unit_171 rfl rfl rfl ?_
          refine dk_if_eq (tgt := 203) (pc' := 175) hE dX11_unit_172 (by decide) rfl (fun hc364 => ?_) (fun hc364 => ?_)
          · skip
            refine dk_aload_n (pc' := 204) hE dX11_unit_203 rfl rfl rfl ?_
            refine dk_iload (pc' := 206) hE dX11_unit_204 rfl rfl ?_
            refine dk_if_ne (tgt := 214) (pc' := 209) hE dX11_unit_206 (by decide) rfl (fun hc365 => ?_) (fun hc365 => ?_)
            · skip
              refine dk_iload (pc' := 216) hE dX11_unit_214 rfl rfl ?_
              refine dk_iload (pc' := 218) hE dX11_unit_216 rfl rfl ?_
              have hz366 : σ327 141 41 = σ 141 41 := by rw [hfσ327 141 41 (by omega), eσ216, dk_up_n (show ¬ (141 = 141 ∧ 41 = 43) by omega)]
              have hz367 : σ327 141 42 = n := by rw [hfσ327 141 42 (by omega), eσ216, dk_up_n (show ¬ (141 = 141 ∧ 42 = 43) by omega), hn]
              refine dk_cV (pc' := 221) (as := [(0, cc), (0, v322)]) hE lk_X11_407 (ct_X11_sign0 l G hGd cc v322 r n (600 * r + n)) dX11_unit_218 rfl is_141 rfl (by decide) (Nat.le_of_ble_eq_true rfl) ⟨rfl, (by omega), (by omega), (by omega), (by omega), (by omega)⟩ rfl (fun r369 σ368 hr369 hor369 => ?_)
              obtain ⟨rfl, hfσ368, hpr369⟩ := hr369
              have H218 := hpr369
              refine dk_iconst (pc' := 222) hE dX11_unit_221 (by decide) rfl ?_
              have hz370 : σ368 141 42 = n + 1 := by rw [(hpr369.2).symm]
              have hz371 : σ368 141 43 = v215 := by rw [hfσ368 141 43 (by omega), hfσ327 141 43 (by omega), eσ216, dk_up_s]
              have hz372 : σ368 141 44 = σ 141 44 := by rw [hfσ368 141 44 (by omega), hfσ327 141 44 (by omega), eσ216, dk_up_n (show ¬ (141 = 141 ∧ 44 = 43) by omega)]
              have hz373 : σ368 141 45 = p := by rw [hfσ368 141 45 (by omega), hfσ327 141 45 (by omega), eσ216, dk_up_n (show ¬ (141 = 141 ∧ 45 = 43) by omega), hp0]
              have hz374 : σ368 141 6 = (σ327 141 6) := by rw [hfσ368 141 6 (by omega)]
              have hz375 : σ368 141 4 = σ 141 4 := by rw [hfσ368 141 4 (by omega), hfσ327 141 4 (by omega), eσ216, dk_up_n (show ¬ (141 = 141 ∧ 4 = 43) by omega)]
              have hz376 : σ368 166 p = σ 166 p := by rw [hfσ368 166 p (by omega), hfσ327 166 p (by omega), eσ216, dk_up_n (show ¬ (166 = 141 ∧ p = 43) by omega)]
              have hz377 : σ368 167 p = σ 167 p := by rw [hfσ368 167 p (by omega), hfσ327 167 p (by omega), eσ216, dk_up_n (show ¬ (167 = 141 ∧ p = 43) by omega)]
              have hz378 : σ368 164 (600 * r + n) = cc := by rw [(hpr369.1).symm]
              have gi379 : NX σ σ368 := NX_fr gi329 (fun k_ j_ h_ => by rw [hfσ368 k_ j_ (by omega)])
              exact dk_zret (st := []) hE hR dX11_unit_222 (by omega) ⟨_, rfl, (fun k_ j_ h_ => by rw [hfσ368 k_ j_ (fun w_ => h_ (w_.elim (fun x0_ => Or.inr (Or.inr (Or.inr (Or.inr (Or.inr (Or.inr (Or.inr (Or.inr (Or.inr (Or.inr (Or.inr (dk_wr (lo := 164) (hi := 167) x0_.1 (by decide))))))))))))) (fun y0_ => y0_.elim (fun x1_ => Or.inr (Or.inr (Or.inr (Or.inr (Or.inr (Or.inr (Or.inr (Or.inr (Or.inr (Or.inr (Or.inr (dk_wr (lo := 164) (hi := 167) x1_.1 (by decide))))))))))))) (fun y1_ => Or.inr (Or.inr (Or.inr (Or.inr (Or.inr (Or.inr (Or.inr (Or.inl (y1_)))))))))))), hfσ327 k_ j_ (fun w_ => h_ (w_.elim (fun x0_ => Or.inr (Or.inr (Or.inl (x0_)))) (fun y0_ => y0_.elim (fun x1_ => Or.inr (Or.inr (Or.inr (Or.inl (x1_))))) (fun y1_ => y1_.elim (fun x2_ => Or.inr (Or.inr (Or.inr (Or.inr (Or.inl (x2_)))))) (fun y2_ => y2_.elim (fun x3_ => Or.inr (Or.inr (Or.inr (Or.inr (Or.inr (Or.inl (x3_))))))) (fun y3_ => Or.inr (Or.inr (Or.inr (Or.inr (Or.inr (Or.inr (Or.inl (y3_))))))))))))), eσ216, dk_up_n (show ¬ (k_ = 141 ∧ j_ = 43) from fun q_ => h_ (Or.inr (Or.inr (Or.inr (Or.inr (Or.inr (Or.inr (Or.inr (Or.inr (Or.inl (q_)))))))))))]), ⟨PX_op hP gi379 hn.symm hp0.symm hp1 (fun k_ j_ h_ => by rw [hfσ368 k_ j_ (by omega), hfσ327 k_ j_ (by omega), eσ216, dk_up_n (show ¬ (k_ = 141 ∧ j_ = 43) by omega)]) (fun j_ => by rw [hfσ368 166 j_ (by omega), hfσ327 166 j_ (by omega), eσ216, dk_up_n (show ¬ (166 = 141 ∧ j_ = 43) by omega)]) (fun j_ => by rw [hfσ368 167 j_ (by omega), hfσ327 167 j_ (by omega), eσ216, dk_up_n (show ¬ (167 = 141 ∧ j_ = 43) by omega)]) (by omega) (by omega) (by omega) (by omega) (by omega) (by omega) (by omega) (by omega), Or.inr (by omega)⟩⟩
            · skip
              refine dk_bipush (pc' := 211) hE dX11_unit_209 (by decide) rfl ?_
              refine dk_goto (tgt := 216) hE dX11_unit_211 (by decide) ?_
              refine dk_iload (pc' := 218) hE dX11_unit_216 rfl rfl ?_
              have hz380 : σ327 141 41 = σ 141 41 := by rw [hfσ327 141 41 (by omega), eσ216, dk_up_n (show ¬ (141 = 141 ∧ 41 = 43) by omega)]
              have hz381 : σ327 141 42 = n := by rw [hfσ327 141 42 (by omega), eσ216, dk_up_n (show ¬ (141 = 141 ∧ 42 = 43) by omega), hn]
              refine dk_cV (pc' := 221) (as := [(0, 110), (0, v322)]) hE lk_X11_407 (ct_X11_sign0 l G hGd 110 v322 r n (600 * r + n)) dX11_unit_218 rfl is_141 rfl (by decide) (Nat.le_of_ble_eq_true rfl) ⟨rfl, (by omega), (by omega), (by omega), (by omega), (by omega)⟩ rfl (fun r383 σ382 hr383 hor383 => ?_)
              obtain ⟨rfl, hfσ382, hpr383⟩ := hr383
              have H218 := hpr383
              refine dk_iconst (pc' := 222) hE dX11_unit_221 (by decide) rfl ?_
              have hz384 : σ382 141 42 = n + 1 := by rw [(hpr383.2).symm]
              have hz385 : σ382 141 43 = v215 := by rw [hfσ382 141 43 (by omega), hfσ327 141 43 (by omega), eσ216, dk_up_s]
              have hz386 : σ382 141 44 = σ 141 44 := by rw [hfσ382 141 44 (by omega), hfσ327 141 44 (by omega), eσ216, dk_up_n (show ¬ (141 = 141 ∧ 44 = 43) by omega)]
              have hz387 : σ382 141 45 = p := by rw [hfσ382 141 45 (by omega), hfσ327 141 45 (by omega), eσ216, dk_up_n (show ¬ (141 = 141 ∧ 45 = 43) by omega), hp0]
              have hz388 : σ382 141 6 = (σ327 141 6) := by rw [hfσ382 141 6 (by omega)]
              have hz389 : σ382 141 4 = σ 141 4 := by rw [hfσ382 141 4 (by omega), hfσ327 141 4 (by omega), eσ216, dk_up_n (show ¬ (141 = 141 ∧ 4 = 43) by omega)]
              have hz390 : σ382 166 p = σ 166 p := by rw [hfσ382 166 p (by omega), hfσ327 166 p (by omega), eσ216, dk_up_n (show ¬ (166 = 141 ∧ p = 43) by omega)]
              have hz391 : σ382 167 p = σ 167 p := by rw [hfσ382 167 p (by omega), hfσ327 167 p (by omega), eσ216, dk_up_n (show ¬ (167 = 141 ∧ p = 43) by omega)]
              have hz392 : σ382 164 (600 * r + n) = 110 := by rw [(hpr383.1).symm]
              have gi393 : NX σ σ382 := NX_fr gi329 (fun k_ j_ h_ => by rw [hfσ382 k_ j_ (by omega)])
              exact dk_zret (st := []) hE hR dX11_unit_222 (by omega) ⟨_, rfl, (fun k_ j_ h_ => by rw [hfσ382 k_ j_ (fun w_ => h_ (w_.elim (fun x0_ => Or.inr (Or.inr (Or.inr (Or.inr (Or.inr (Or.inr (Or.inr (Or.inr (Or.inr (Or.inr (Or.inr (dk_wr (lo := 164) (hi := 167) x0_.1 (by decide))))))))))))) (fun y0_ => y0_.elim (fun x1_ => Or.inr (Or.inr (Or.inr (Or.inr (Or.inr (Or.inr (Or.inr (Or.inr (Or.inr (Or.inr (Or.inr (dk_wr (lo := 164) (hi := 167) x1_.1 (by decide))))))))))))) (fun y1_ => Or.inr (Or.inr (Or.inr (Or.inr (Or.inr (Or.inr (Or.inr (Or.inl (y1_)))))))))))), hfσ327 k_ j_ (fun w_ => h_ (w_.elim (fun x0_ => Or.inr (Or.inr (Or.inl (x0_)))) (fun y0_ => y0_.elim (fun x1_ => Or.inr (Or.inr (Or.inr (Or.inl (x1_))))) (fun y1_ => y1_.elim (fun x2_ => Or.inr (Or.inr (Or.inr (Or.inr (Or.inl (x2_)))))) (fun y2_ => y2_.elim (fun x3_ => Or.inr (Or.inr (Or.inr (Or.inr (Or.inr (Or.inl (x3_))))))) (fun y3_ => Or.inr (Or.inr (Or.inr (Or.inr (Or.inr (Or.inr (Or.inl (y3_))))))))))))), eσ216, dk_up_n (show ¬ (k_ = 141 ∧ j_ = 43) from fun q_ => h_ (Or.inr (Or.inr (Or.inr (Or.inr (Or.inr (Or.inr (Or.inr (Or.inr (Or.inl (q_)))))))))))]), ⟨PX_op hP gi393 hn.symm hp0.symm hp1 (fun k_ j_ h_ => by rw [hfσ382 k_ j_ (by omega), hfσ327 k_ j_ (by omega), eσ216, dk_up_n (show ¬ (k_ = 141 ∧ j_ = 43) by omega)]) (fun j_ => by rw [hfσ382 166 j_ (by omega), hfσ327 166 j_ (by omega), eσ216, dk_up_n (show ¬ (166 = 141 ∧ j_ = 43) by omega)]) (fun j_ => by rw [hfσ382 167 j_ (by omega), hfσ327 167 j_ (by omega), eσ216, dk_up_n (show ¬ (167 = 141 ∧ j_ = 43) by omega)]) (by omega) (by omega) (by omega) (by omega) (by omega) (by omega) (by omega) (by omega), Or.inr (by omega)⟩⟩
          · skip
            refine dk_aload_n (pc' := 176) hE dX11_unit_175 rfl rfl rfl ?_
            refine dk_iload_n (pc' := 177) hE dX11_unit_176 rfl rfl rfl ?_
            refine dk_if_eq (tgt := 184) (pc' := 180) hE dX11_unit_177 (by decide) rfl (fun hc394 => ?_) (fun hc394 => ?_)
            · skip
              refine dk_bipush (pc' := 186) hE dX11_unit_184 (by decide) rfl ?_
              refine dk_bipush (pc' := 188) hE dX11_unit_186 (by decide) rfl ?_
              have hz395 : σ327 141 45 = p := by rw [hfσ327 141 45 (by omega), eσ216, dk_up_n (show ¬ (141 = 141 ∧ 45 = 43) by omega), hp0]
              refine dk_cV (pc' := 191) (as := [(0, 7), (0, 126)]) hE lk_X11_395 (ct_X11_put l G hGd 7 126 p) dX11_unit_188 rfl is_141 rfl (by decide) (Nat.le_of_ble_eq_true rfl) ⟨rfl, (by omega), (by omega)⟩ rfl (fun r397 σ396 hr397 hor397 => ?_)
              obtain ⟨rfl, hfσ396, hpr397⟩ := hr397
              have H188 := hpr397
              refine dk_aload_n (pc' := 192) hE dX11_unit_191 rfl rfl rfl ?_
              refine dk_dup (pc' := 193) hE dX11_unit_192 (show (4 : Nat) ≠ 3 by decide) rfl ?_
              refine gf_11_44 (pc' := 196) hE fl_X11_392 dX11_unit_193 is_141 rfl (fun v398 hv398 htv398 hbv398 => ?_)
              have hq398 : v398 = σ 141 44 := by rw [hv398, hfσ396 141 44 (by omega), hfσ327 141 44 (by omega), eσ216, dk_up_n (show ¬ (141 = 141 ∧ 44 = 43) by omega)]
              refine dk_iconst (pc' := 197) hE dX11_unit_196 (by decide) rfl ?_
              obtain ⟨v399, hv399⟩ : ∃ z : Int, z = v398 + 1 := ⟨_, rfl⟩
              refine dk_iadd (pc' := 198) hE dX11_unit_197 hv399.symm (by omega) rfl ?_
              refine pf_11_44 (pc' := 201) hE fl_X11_392 dX11_unit_198 is_141 trivial rfl (fun σ400 eσ400 => ?_)
              refine dk_iconst (pc' := 202) hE dX11_unit_201 (by decide) rfl ?_
              have hz401 : σ400 141 42 = n := by rw [eσ400, dk_up_n (show ¬ (141 = 141 ∧ 42 = 44) by omega), hfσ396 141 42 (by omega), hfσ327 141 42 (by omega), eσ216, dk_up_n (show ¬ (141 = 141 ∧ 42 = 43) by omega), hn]
              have hz402 : σ400 141 43 = v215 := by rw [eσ400, dk_up_n (show ¬ (141 = 141 ∧ 43 = 44) by omega), hfσ396 141 43 (by omega), hfσ327 141 43 (by omega), eσ216, dk_up_s]
              have hz403 : σ400 141 44 = v399 := by rw [eσ400, dk_up_s]
              have hz404 : σ400 141 45 = p + 1 := by rw [eσ400, dk_up_n (show ¬ (141 = 141 ∧ 45 = 44) by omega), (hpr397.2.2).symm]
              have hz405 : σ400 141 6 = (σ327 141 6) := by rw [eσ400, dk_up_n (show ¬ (141 = 141 ∧ 6 = 44) by omega), hfσ396 141 6 (by omega)]
              have hz406 : σ400 141 4 = σ 141 4 := by rw [eσ400, dk_up_n (show ¬ (141 = 141 ∧ 4 = 44) by omega), hfσ396 141 4 (by omega), hfσ327 141 4 (by omega), eσ216, dk_up_n (show ¬ (141 = 141 ∧ 4 = 43) by omega)]
              have hz407 : σ400 166 p = 7 := by rw [eσ400, dk_up_n (show ¬ (166 = 141 ∧ p = 44) by omega), (hpr397.1).symm]
              have hz408 : σ400 167 p = 126 := by rw [eσ400, dk_up_n (show ¬ (167 = 141 ∧ p = 44) by omega), (hpr397.2.1).symm]
              have hz409 : σ400 164 (600 * r + n) = σ 164 (600 * r + n) := by rw [eσ400, dk_up_n (show ¬ (164 = 141 ∧ (600 * r + n) = 44) by omega), hfσ396 164 (600 * r + n) (by omega), hfσ327 164 (600 * r + n) (by omega), eσ216, dk_up_n (show ¬ (164 = 141 ∧ (600 * r + n) = 43) by omega)]
              have gi410 : NX σ σ400 := NX_fr gi329 (fun k_ j_ h_ => by rw [eσ400, dk_up_n (show ¬ (k_ = 141 ∧ j_ = 44) by omega), hfσ396 k_ j_ (by omega)])
              exact dk_zret (st := []) hE hR dX11_unit_202 (by omega) ⟨_, rfl, (fun k_ j_ h_ => by rw [eσ400, dk_up_n (show ¬ (k_ = 141 ∧ j_ = 44) from fun q_ => h_ (Or.inr (Or.inr (Or.inr (Or.inr (Or.inr (Or.inr (Or.inr (Or.inr (Or.inr (Or.inl (q_)))))))))))), hfσ396 k_ j_ (fun w_ => h_ (w_.elim (fun x0_ => Or.inr (Or.inr (Or.inr (Or.inr (Or.inr (Or.inr (Or.inr (Or.inr (Or.inr (Or.inr (Or.inr (dk_wr (lo := 164) (hi := 167) x0_.1 (by decide))))))))))))) (fun y0_ => y0_.elim (fun x1_ => Or.inr (Or.inr (Or.inr (Or.inr (Or.inr (Or.inr (Or.inr (Or.inr (Or.inr (Or.inr (Or.inr (dk_wr (lo := 164) (hi := 167) x1_.1 (by decide))))))))))))) (fun y1_ => Or.inr (Or.inr (Or.inr (Or.inr (Or.inr (Or.inr (Or.inr (Or.inr (Or.inr (Or.inr (Or.inl (y1_))))))))))))))), hfσ327 k_ j_ (fun w_ => h_ (w_.elim (fun x0_ => Or.inr (Or.inr (Or.inl (x0_)))) (fun y0_ => y0_.elim (fun x1_ => Or.inr (Or.inr (Or.inr (Or.inl (x1_))))) (fun y1_ => y1_.elim (fun x2_ => Or.inr (Or.inr (Or.inr (Or.inr (Or.inl (x2_)))))) (fun y2_ => y2_.elim (fun x3_ => Or.inr (Or.inr (Or.inr (Or.inr (Or.inr (Or.inl (x3_))))))) (fun y3_ => Or.inr (Or.inr (Or.inr (Or.inr (Or.inr (Or.inr (Or.inl (y3_))))))))))))), eσ216, dk_up_n (show ¬ (k_ = 141 ∧ j_ = 43) from fun q_ => h_ (Or.inr (Or.inr (Or.inr (Or.inr (Or.inr (Or.inr (Or.inr (Or.inr (Or.inl (q_)))))))))))]), ⟨PX_put hP gi410 hn.symm hp0.symm hp1 (fun k_ j_ h_ => by rw [eσ400, dk_up_n (show ¬ (k_ = 141 ∧ j_ = 44) by omega), hfσ396 k_ j_ (by omega), hfσ327 k_ j_ (by omega), eσ216, dk_up_n (show ¬ (k_ = 141 ∧ j_ = 43) by omega)]) (fun j_ => by rw [eσ400, dk_up_n (show ¬ (164 = 141 ∧ j_ = 44) by omega), hfσ396 164 j_ (by omega), hfσ327 164 j_ (by omega), eσ216, dk_up_n (show ¬ (164 = 141 ∧ j_ = 43) by omega)]) (by omega) (by omega) (by omega) (by omega) (by omega) (by omega) (by omega) rfl (Or.inl (by omega)), Or.inr (by omega)⟩⟩
            · skip
              refine dk_iconst (pc' := 181) hE dX11_unit_180 (by decide) rfl ?_
              refine dk_goto (tgt := 186) hE dX11_unit_181 (by decide) ?_
              refine dk_bipush (pc' := 188) hE dX11_unit_186 (by decide) rfl ?_
              have hz411 : σ327 141 45 = p := by rw [hfσ327 141 45 (by omega), eσ216, dk_up_n (show ¬ (141 = 141 ∧ 45 = 43) by omega), hp0]
              refine dk_cV (pc' := 191) (as := [(0, 3), (0, 126)]) hE lk_X11_395 (ct_X11_put l G hGd 3 126 p) dX11_unit_188 rfl is_141 rfl (by decide) (Nat.le_of_ble_eq_true rfl) ⟨rfl, (by omega), (by omega)⟩ rfl (fun r413 σ412 hr413 hor413 => ?_)
              obtain ⟨rfl, hfσ412, hpr413⟩ := hr413
              have H188 := hpr413
              refine dk_aload_n (pc' := 192) hE dX11_unit_191 rfl rfl rfl ?_
              refine dk_dup (pc' := 193) hE dX11_unit_192 (show (4 : Nat) ≠ 3 by decide) rfl ?_
              refine gf_11_44 (pc' := 196) hE fl_X11_392 dX11_unit_193 is_141 rfl (fun v414 hv414 htv414 hbv414 => ?_)
              have hq414 : v414 = σ 141 44 := by rw [hv414, hfσ412 141 44 (by omega), hfσ327 141 44 (by omega), eσ216, dk_up_n (show ¬ (141 = 141 ∧ 44 = 43) by omega)]
              refine dk_iconst (pc' := 197) hE dX11_unit_196 (by decide) rfl ?_
              obtain ⟨v415, hv415⟩ : ∃ z : Int, z = v414 + 1 := ⟨_, rfl⟩
              refine dk_iadd (pc' := 198) hE dX11_unit_197 hv415.symm (by omega) rfl ?_
              refine pf_11_44 (pc' := 201) hE fl_X11_392 dX11_unit_198 is_141 trivial rfl (fun σ416 eσ416 => ?_)
              refine dk_iconst (pc' := 202) hE dX11_unit_201 (by decide) rfl ?_
              have hz417 : σ416 141 42 = n := by rw [eσ416, dk_up_n (show ¬ (141 = 141 ∧ 42 = 44) by omega), hfσ412 141 42 (by omega), hfσ327 141 42 (by omega), eσ216, dk_up_n (show ¬ (141 = 141 ∧ 42 = 43) by omega), hn]
              have hz418 : σ416 141 43 = v215 := by rw [eσ416, dk_up_n (show ¬ (141 = 141 ∧ 43 = 44) by omega), hfσ412 141 43 (by omega), hfσ327 141 43 (by omega), eσ216, dk_up_s]
              have hz419 : σ416 141 44 = v415 := by rw [eσ416, dk_up_s]
              have hz420 : σ416 141 45 = p + 1 := by rw [eσ416, dk_up_n (show ¬ (141 = 141 ∧ 45 = 44) by omega), (hpr413.2.2).symm]
              have hz421 : σ416 141 6 = (σ327 141 6) := by rw [eσ416, dk_up_n (show ¬ (141 = 141 ∧ 6 = 44) by omega), hfσ412 141 6 (by omega)]
              have hz422 : σ416 141 4 = σ 141 4 := by rw [eσ416, dk_up_n (show ¬ (141 = 141 ∧ 4 = 44) by omega), hfσ412 141 4 (by omega), hfσ327 141 4 (by omega), eσ216, dk_up_n (show ¬ (141 = 141 ∧ 4 = 43) by omega)]
              have hz423 : σ416 166 p = 3 := by rw [eσ416, dk_up_n (show ¬ (166 = 141 ∧ p = 44) by omega), (hpr413.1).symm]
              have hz424 : σ416 167 p = 126 := by rw [eσ416, dk_up_n (show ¬ (167 = 141 ∧ p = 44) by omega), (hpr413.2.1).symm]
              have hz425 : σ416 164 (600 * r + n) = σ 164 (600 * r + n) := by rw [eσ416, dk_up_n (show ¬ (164 = 141 ∧ (600 * r + n) = 44) by omega), hfσ412 164 (600 * r + n) (by omega), hfσ327 164 (600 * r + n) (by omega), eσ216, dk_up_n (show ¬ (164 = 141 ∧ (600 * r + n) = 43) by omega)]
              have gi426 : NX σ σ416 := NX_fr gi329 (fun k_ j_ h_ => by rw [eσ416, dk_up_n (show ¬ (k_ = 141 ∧ j_ = 44) by omega), hfσ412 k_ j_ (by omega)])
              exact dk_zret (st := []) hE hR dX11_unit_202 (by omega) ⟨_, rfl, (fun k_ j_ h_ => by rw [eσ416, dk_up_n (show ¬ (k_ = 141 ∧ j_ = 44) from fun q_ => h_ (Or.inr (Or.inr (Or.inr (Or.inr (Or.inr (Or.inr (Or.inr (Or.inr (Or.inr (Or.inl (q_)))))))))))), hfσ412 k_ j_ (fun w_ => h_ (w_.elim (fun x0_ => Or.inr (Or.inr (Or.inr (Or.inr (Or.inr (Or.inr (Or.inr (Or.inr (Or.inr (Or.inr (Or.inr (dk_wr (lo := 164) (hi := 167) x0_.1 (by decide))))))))))))) (fun y0_ => y0_.elim (fun x1_ => Or.inr (Or.inr (Or.inr (Or.inr (Or.inr (Or.inr (Or.inr (Or.inr (Or.inr (Or.inr (Or.inr (dk_wr (lo := 164) (hi := 167) x1_.1 (by decide))))))))))))) (fun y1_ => Or.inr (Or.inr (Or.inr (Or.inr (Or.inr (Or.inr (Or.inr (Or.inr (Or.inr (Or.inr (Or.inl (y1_))))))))))))))), hfσ327 k_ j_ (fun w_ => h_ (w_.elim (fun x0_ => Or.inr (Or.inr (Or.inl (x0_)))) (fun y0_ => y0_.elim (fun x1_ => Or.inr (Or.inr (Or.inr (Or.inl (x1_))))) (fun y1_ => y1_.elim (fun x2_ => Or.inr (Or.inr (Or.inr (Or.inr (Or.inl (x2_)))))) (fun y2_ => y2_.elim (fun x3_ => Or.inr (Or.inr (Or.inr (Or.inr (Or.inr (Or.inl (x3_))))))) (fun y3_ => Or.inr (Or.inr (Or.inr (Or.inr (Or.inr (Or.inr (Or.inl (y3_))))))))))))), eσ216, dk_up_n (show ¬ (k_ = 141 ∧ j_ = 43) from fun q_ => h_ (Or.inr (Or.inr (Or.inr (Or.inr (Or.inr (Or.inr (Or.inr (Or.inr (Or.inl (q_)))))))))))]), ⟨PX_put hP gi426 hn.symm hp0.symm hp1 (fun k_ j_ h_ => by rw [eσ416, dk_up_n (show ¬ (k_ = 141 ∧ j_ = 44) by omega), hfσ412 k_ j_ (by omega), hfσ327 k_ j_ (by omega), eσ216, dk_up_n (show ¬ (k_ = 141 ∧ j_ = 43) by omega)]) (fun j_ => by rw [eσ416, dk_up_n (show ¬ (164 = 141 ∧ j_ = 44) by omega), hfσ412 164 j_ (by omega), hfσ327 164 j_ (by omega), eσ216, dk_up_n (show ¬ (164 = 141 ∧ j_ = 43) by omega)]) (by omega) (by omega) (by omega) (by omega) (by omega) (by omega) (by omega) rfl (Or.inl (by omega)), Or.inr (by omega)⟩⟩
  have lp57 : ∀ (m : Int) (σ57c : dkS), ((∀ k_ j_ : Int, ¬ (False) → σ57c k_ j_ = σ k_ j_)) → (0 ≤ m ∧ m ≤ 1 ∧ (m = 1 → σ 141 8 ≠ 0)) → dk_PJ E 57 [(4, 141), (9, 0), (0, m), (9, 0), (9, 0), (9, 0)] [] 190 σ57c := by
    intro m σ57c hF57 hm
    have hS57 : σ = σ57c := (funext (fun k => funext (fun j => hF57 k j not_false))).symm
    subst hS57
    refine dk_aload_n (pc' := 58) hE dX11_unit_57 rfl rfl rfl ?_
    refine dk_bipush (pc' := 60) hE dX11_unit_58 (by decide) rfl ?_
    refine dk_cV (pc' := 63) (as := [(0, 40)]) hE lk_X11_298 (ct_X11_is l G hGd 40) dX11_unit_60 rfl is_141 rfl (by decide) (Nat.le_of_ble_eq_true rfl) rfl rfl (fun r428 σ427 hr428 hor428 => ?_)
    obtain ⟨v429, rfl, hfσ427, hpr428⟩ := hr428
    have hsσ427 : σ = σ427 := (funext (fun k => funext (fun j => hfσ427 k j not_false))).symm
    subst hsσ427
    rcases hpr428 with ⟨rfl, hpr428⟩ | rfl
    · skip
      refine dk_istore_n (pc' := 64) (ls' := [(4, 141), (9, 0), (0, m), (0, 1), (9, 0), (9, 0)]) hE dX11_unit_63 rfl rfl (by decide) rfl ?_
      refine dk_aload_n (pc' := 65) hE dX11_unit_64 rfl rfl rfl ?_
      refine dk_cV (pc' := 68) (as := []) hE lk_X11_404 (ct_X11_wordHere l G hGd) dX11_unit_65 rfl is_141 rfl (by decide) (Nat.le_of_ble_eq_true rfl) rfl rfl (fun r431 σ430 hr431 hor431 => ?_)
      obtain ⟨v432, rfl, hfσ430, hpr431⟩ := hr431
      have hsσ430 : σ = σ430 := (funext (fun k => funext (fun j => hfσ430 k j not_false))).symm
      subst hsσ430
      refine dk_istore (pc' := 70) (ls' := [(4, 141), (9, 0), (0, m), (0, 1), (0, v432), (9, 0)]) hE dX11_unit_68 rfl (by decide) rfl ?_
      refine dk_iload_n (pc' := 71) hE dX11_unit_70 rfl rfl rfl ?_
      refine dk_if_ne (tgt := 100) (pc' := 74) hE dX11_unit_71 (by decide) rfl (fun hc433 => ?_) (fun hc433 => ?_)
      · skip
        refine dk_iload_n (pc' := 101) hE dX11_unit_100 rfl rfl rfl ?_
        refine dk_if_ne (tgt := 108) (pc' := 104) hE dX11_unit_101 (by decide) rfl (fun hc434 => ?_) (fun hc434 => ?_)
        · skip
          refine dk_aload_n (pc' := 109) hE dX11_unit_108 rfl rfl rfl ?_
          refine gf_11_44 (pc' := 112) hE fl_X11_392 dX11_unit_109 is_141 rfl (fun v435 hv435 htv435 hbv435 => ?_)
          refine dk_bipush (pc' := 114) hE dX11_unit_112 (by decide) rfl ?_
          refine dk_icmp_ne (tgt := 121) (pc' := 117) hE dX11_unit_114 (by decide) rfl (fun hc436 => ?_) (fun hc436 => ?_)
          · skip
            refine dk_aload_n (pc' := 122) hE dX11_unit_121 rfl rfl rfl ?_
            refine dk_cV (pc' := 125) (as := []) hE lk_X11_250 (ct_X11_isGood l G hGd) dX11_unit_122 rfl is_141 rfl (by decide) (Nat.le_of_ble_eq_true rfl) rfl rfl (fun r438 σ437 hr438 hor438 => ?_)
            obtain ⟨v439, rfl, hfσ437, hpr438⟩ := hr438
            have hsσ437 : σ = σ437 := (funext (fun k => funext (fun j => hfσ437 k j not_false))).symm
            subst hsσ437
            rcases hpr438 with ⟨rfl, hpr438⟩ | ⟨rfl, hpr438⟩
            · skip
              refine dk_if_ne (tgt := 130) (pc' := 128) hE dX11_unit_125 (by decide) rfl (fun hc440 => ?_) (fun hc440 => absurd hc440 (by decide))
              have hz441 : σ 141 44 = v435 := by rw [hv435]
              have hz442 : σ 141 44 = v435 := by rw [hv435]
              exact lp130 m 1 v432 σ (fun k_ j_ h_ => rfl) (by omega) (by omega)
            · skip
              refine dk_if_ne (tgt := 130) (pc' := 128) hE dX11_unit_125 (by decide) rfl (fun hc443 => absurd hc443 (by decide)) (fun hc443 => ?_)
              refine dk_iconst (pc' := 129) hE dX11_unit_128 (by decide) rfl ?_
              have hz444 : σ 141 42 = n := by rw [hn]
              have hz445 : σ 141 44 = v435 := by rw [hv435]
              have hz446 : σ 141 45 = p := by rw [hp0]
              exact dk_zret (st := []) hE hR dX11_unit_129 (by omega) ⟨_, rfl, (fun k_ j_ h_ => rfl), ⟨PX_go hP (NX_rf hT) (fun k_ j_ h_ => rfl), Or.inl (by omega)⟩⟩
          · skip
            refine dk_aload_n (pc' := 118) hE dX11_unit_117 rfl rfl rfl ?_
            refine dk_cV (pc' := 121) (as := []) hE lk_X11_257 (ct_X11_wrong l G hGd) dX11_unit_118 rfl is_141 rfl (by decide) (Nat.le_of_ble_eq_true rfl) rfl rfl (fun r448 σ447 hr448 hor448 => ?_)
            obtain ⟨rfl, hfσ447, hpr448⟩ := hr448
            have gi449 : NX σ σ447 := NX_f (NX_rf hT) hfσ447 hpr448
            refine dk_aload_n (pc' := 122) hE dX11_unit_121 rfl rfl rfl ?_
            refine dk_cV (pc' := 125) (as := []) hE lk_X11_250 (ct_X11_isGood l G hGd) dX11_unit_122 rfl is_141 rfl (by decide) (Nat.le_of_ble_eq_true rfl) rfl rfl (fun r451 σ450 hr451 hor451 => ?_)
            obtain ⟨v452, rfl, hfσ450, hpr451⟩ := hr451
            have hsσ450 : σ447 = σ450 := (funext (fun k => funext (fun j => hfσ450 k j not_false))).symm
            subst hsσ450
            rcases hpr451 with ⟨rfl, hpr451⟩ | ⟨rfl, hpr451⟩
            · skip
              refine dk_if_ne (tgt := 130) (pc' := 128) hE dX11_unit_125 (by decide) rfl (fun hc453 => ?_) (fun hc453 => absurd hc453 (by decide))
              exact lp130 m 1 v432 σ447 (fun k_ j_ h_ => by rw [hfσ447 k_ j_ (by omega)]) (by omega) (by omega)
            · skip
              refine dk_if_ne (tgt := 130) (pc' := 128) hE dX11_unit_125 (by decide) rfl (fun hc454 => absurd hc454 (by decide)) (fun hc454 => ?_)
              refine dk_iconst (pc' := 129) hE dX11_unit_128 (by decide) rfl ?_
              have hz455 : σ447 141 42 = n := by rw [hfσ447 141 42 (by omega), hn]
              have hz456 : σ447 141 43 = σ 141 43 := by rw [hfσ447 141 43 (by omega)]
              have hz457 : σ447 141 44 = v435 := by rw [hfσ447 141 44 (by omega), hv435]
              have hz458 : σ447 141 45 = p := by rw [hfσ447 141 45 (by omega), hp0]
              have hz459 : σ447 141 6 = σ 141 6 := by rw [hfσ447 141 6 (by omega)]
              have hz460 : σ447 166 p = σ 166 p := by rw [hfσ447 166 p (by omega)]
              have hz461 : σ447 167 p = σ 167 p := by rw [hfσ447 167 p (by omega)]
              have hz462 : σ447 164 (600 * r + n) = σ 164 (600 * r + n) := by rw [hfσ447 164 (600 * r + n) (by omega)]
              exact dk_zret (st := []) hE hR dX11_unit_129 (by omega) ⟨_, rfl, (fun k_ j_ h_ => by rw [hfσ447 k_ j_ (fun w_ => h_ (w_.elim (fun x0_ => Or.inl (x0_)) (fun y0_ => Or.inr (Or.inl (y0_)))))]), ⟨PX_go hP gi449 (fun k_ j_ h_ => by rw [hfσ447 k_ j_ (by omega)]), Or.inl (by omega)⟩⟩
        · skip
          refine dk_iload_n (pc' := 105) hE dX11_unit_104 rfl rfl rfl ?_
          refine dk_if_eq (tgt := 121) (pc' := 108) hE dX11_unit_105 (by decide) rfl (fun hc463 => absurd hc463 (by decide)) (fun hc463 => ?_)
          refine dk_aload_n (pc' := 109) hE dX11_unit_108 rfl rfl rfl ?_
          refine gf_11_44 (pc' := 112) hE fl_X11_392 dX11_unit_109 is_141 rfl (fun v464 hv464 htv464 hbv464 => ?_)
          refine dk_bipush (pc' := 114) hE dX11_unit_112 (by decide) rfl ?_
          refine dk_icmp_ne (tgt := 121) (pc' := 117) hE dX11_unit_114 (by decide) rfl (fun hc465 => ?_) (fun hc465 => ?_)
          · skip
            refine dk_aload_n (pc' := 122) hE dX11_unit_121 rfl rfl rfl ?_
            refine dk_cV (pc' := 125) (as := []) hE lk_X11_250 (ct_X11_isGood l G hGd) dX11_unit_122 rfl is_141 rfl (by decide) (Nat.le_of_ble_eq_true rfl) rfl rfl (fun r467 σ466 hr467 hor467 => ?_)
            obtain ⟨v468, rfl, hfσ466, hpr467⟩ := hr467
            have hsσ466 : σ = σ466 := (funext (fun k => funext (fun j => hfσ466 k j not_false))).symm
            subst hsσ466
            rcases hpr467 with ⟨rfl, hpr467⟩ | ⟨rfl, hpr467⟩
            · skip
              refine dk_if_ne (tgt := 130) (pc' := 128) hE dX11_unit_125 (by decide) rfl (fun hc469 => ?_) (fun hc469 => absurd hc469 (by decide))
              have hz470 : σ 141 44 = v464 := by rw [hv464]
              have hz471 : σ 141 44 = v464 := by rw [hv464]
              exact lp130 m 1 v432 σ (fun k_ j_ h_ => rfl) (by omega) (by omega)
            · skip
              refine dk_if_ne (tgt := 130) (pc' := 128) hE dX11_unit_125 (by decide) rfl (fun hc472 => absurd hc472 (by decide)) (fun hc472 => ?_)
              refine dk_iconst (pc' := 129) hE dX11_unit_128 (by decide) rfl ?_
              have hz473 : σ 141 42 = n := by rw [hn]
              have hz474 : σ 141 44 = v464 := by rw [hv464]
              have hz475 : σ 141 45 = p := by rw [hp0]
              exact dk_zret (st := []) hE hR dX11_unit_129 (by omega) ⟨_, rfl, (fun k_ j_ h_ => rfl), ⟨PX_go hP (NX_rf hT) (fun k_ j_ h_ => rfl), Or.inl (by omega)⟩⟩
          · skip
            refine dk_aload_n (pc' := 118) hE dX11_unit_117 rfl rfl rfl ?_
            refine dk_cV (pc' := 121) (as := []) hE lk_X11_257 (ct_X11_wrong l G hGd) dX11_unit_118 rfl is_141 rfl (by decide) (Nat.le_of_ble_eq_true rfl) rfl rfl (fun r477 σ476 hr477 hor477 => ?_)
            obtain ⟨rfl, hfσ476, hpr477⟩ := hr477
            have gi478 : NX σ σ476 := NX_f (NX_rf hT) hfσ476 hpr477
            refine dk_aload_n (pc' := 122) hE dX11_unit_121 rfl rfl rfl ?_
            refine dk_cV (pc' := 125) (as := []) hE lk_X11_250 (ct_X11_isGood l G hGd) dX11_unit_122 rfl is_141 rfl (by decide) (Nat.le_of_ble_eq_true rfl) rfl rfl (fun r480 σ479 hr480 hor480 => ?_)
            obtain ⟨v481, rfl, hfσ479, hpr480⟩ := hr480
            have hsσ479 : σ476 = σ479 := (funext (fun k => funext (fun j => hfσ479 k j not_false))).symm
            subst hsσ479
            rcases hpr480 with ⟨rfl, hpr480⟩ | ⟨rfl, hpr480⟩
            · skip
              refine dk_if_ne (tgt := 130) (pc' := 128) hE dX11_unit_125 (by decide) rfl (fun hc482 => ?_) (fun hc482 => absurd hc482 (by decide))
              exact lp130 m 1 v432 σ476 (fun k_ j_ h_ => by rw [hfσ476 k_ j_ (by omega)]) (by omega) (by omega)
            · skip
              refine dk_if_ne (tgt := 130) (pc' := 128) hE dX11_unit_125 (by decide) rfl (fun hc483 => absurd hc483 (by decide)) (fun hc483 => ?_)
              refine dk_iconst (pc' := 129) hE dX11_unit_128 (by decide) rfl ?_
              have hz484 : σ476 141 42 = n := by rw [hfσ476 141 42 (by omega), hn]
              have hz485 : σ476 141 43 = σ 141 43 := by rw [hfσ476 141 43 (by omega)]
              have hz486 : σ476 141 44 = v464 := by rw [hfσ476 141 44 (by omega), hv464]
              have hz487 : σ476 141 45 = p := by rw [hfσ476 141 45 (by omega), hp0]
              have hz488 : σ476 141 6 = σ 141 6 := by rw [hfσ476 141 6 (by omega)]
              have hz489 : σ476 166 p = σ 166 p := by rw [hfσ476 166 p (by omega)]
              have hz490 : σ476 167 p = σ 167 p := by rw [hfσ476 167 p (by omega)]
              have hz491 : σ476 164 (600 * r + n) = σ 164 (600 * r + n) := by rw [hfσ476 164 (600 * r + n) (by omega)]
              exact dk_zret (st := []) hE hR dX11_unit_129 (by omega) ⟨_, rfl, (fun k_ j_ h_ => by rw [hfσ476 k_ j_ (fun w_ => h_ (w_.elim (fun x0_ => Or.inl (x0_)) (fun y0_ => Or.inr (Or.inl (y0_)))))]), ⟨PX_go hP gi478 (fun k_ j_ h_ => by rw [hfσ476 k_ j_ (by omega)]), Or.inl (by omega)⟩⟩
      · skip
        refine dk_iload (pc' := 76) hE dX11_unit_74 rfl rfl ?_
        refine dk_if_ne (tgt := 91) (pc' := 79) hE dX11_unit_76 (by decide) rfl (fun hc492 => ?_) (fun hc492 => ?_)
        · skip
          refine dk_aload_n (pc' := 92) hE dX11_unit_91 rfl rfl rfl ?_
          refine gf_11_43 (pc' := 95) hE fl_X11_380 dX11_unit_92 is_141 rfl (fun v493 hv493 htv493 hbv493 => ?_)
          refine dk_bipush (pc' := 97) hE dX11_unit_95 (by decide) rfl ?_
          refine dk_icmp_eq (tgt := 117) (pc' := 100) hE dX11_unit_97 (by decide) rfl (fun hc494 => ?_) (fun hc494 => ?_)
          · skip
            refine dk_aload_n (pc' := 118) hE dX11_unit_117 rfl rfl rfl ?_
            refine dk_cV (pc' := 121) (as := []) hE lk_X11_257 (ct_X11_wrong l G hGd) dX11_unit_118 rfl is_141 rfl (by decide) (Nat.le_of_ble_eq_true rfl) rfl rfl (fun r496 σ495 hr496 hor496 => ?_)
            obtain ⟨rfl, hfσ495, hpr496⟩ := hr496
            have gi497 : NX σ σ495 := NX_f (NX_rf hT) hfσ495 hpr496
            refine dk_aload_n (pc' := 122) hE dX11_unit_121 rfl rfl rfl ?_
            refine dk_cV (pc' := 125) (as := []) hE lk_X11_250 (ct_X11_isGood l G hGd) dX11_unit_122 rfl is_141 rfl (by decide) (Nat.le_of_ble_eq_true rfl) rfl rfl (fun r499 σ498 hr499 hor499 => ?_)
            obtain ⟨v500, rfl, hfσ498, hpr499⟩ := hr499
            have hsσ498 : σ495 = σ498 := (funext (fun k => funext (fun j => hfσ498 k j not_false))).symm
            subst hsσ498
            rcases hpr499 with ⟨rfl, hpr499⟩ | ⟨rfl, hpr499⟩
            · skip
              refine dk_if_ne (tgt := 130) (pc' := 128) hE dX11_unit_125 (by decide) rfl (fun hc501 => ?_) (fun hc501 => absurd hc501 (by decide))
              exact lp130 m 1 v432 σ495 (fun k_ j_ h_ => by rw [hfσ495 k_ j_ (by omega)]) (by omega) (by omega)
            · skip
              refine dk_if_ne (tgt := 130) (pc' := 128) hE dX11_unit_125 (by decide) rfl (fun hc502 => absurd hc502 (by decide)) (fun hc502 => ?_)
              refine dk_iconst (pc' := 129) hE dX11_unit_128 (by decide) rfl ?_
              have hz503 : σ495 141 42 = n := by rw [hfσ495 141 42 (by omega), hn]
              have hz504 : σ495 141 43 = v493 := by rw [hfσ495 141 43 (by omega), hv493]
              have hz505 : σ495 141 44 = σ 141 44 := by rw [hfσ495 141 44 (by omega)]
              have hz506 : σ495 141 45 = p := by rw [hfσ495 141 45 (by omega), hp0]
              have hz507 : σ495 141 6 = σ 141 6 := by rw [hfσ495 141 6 (by omega)]
              have hz508 : σ495 166 p = σ 166 p := by rw [hfσ495 166 p (by omega)]
              have hz509 : σ495 167 p = σ 167 p := by rw [hfσ495 167 p (by omega)]
              have hz510 : σ495 164 (600 * r + n) = σ 164 (600 * r + n) := by rw [hfσ495 164 (600 * r + n) (by omega)]
              exact dk_zret (st := []) hE hR dX11_unit_129 (by omega) ⟨_, rfl, (fun k_ j_ h_ => by rw [hfσ495 k_ j_ (fun w_ => h_ (w_.elim (fun x0_ => Or.inl (x0_)) (fun y0_ => Or.inr (Or.inl (y0_)))))]), ⟨PX_go hP gi497 (fun k_ j_ h_ => by rw [hfσ495 k_ j_ (by omega)]), Or.inl (by omega)⟩⟩
          · skip
            refine dk_iload_n (pc' := 101) hE dX11_unit_100 rfl rfl rfl ?_
            refine dk_if_ne (tgt := 108) (pc' := 104) hE dX11_unit_101 (by decide) rfl (fun hc511 => ?_) (fun hc511 => ?_)
            · skip
              refine dk_aload_n (pc' := 109) hE dX11_unit_108 rfl rfl rfl ?_
              refine gf_11_44 (pc' := 112) hE fl_X11_392 dX11_unit_109 is_141 rfl (fun v512 hv512 htv512 hbv512 => ?_)
              refine dk_bipush (pc' := 114) hE dX11_unit_112 (by decide) rfl ?_
              refine dk_icmp_ne (tgt := 121) (pc' := 117) hE dX11_unit_114 (by decide) rfl (fun hc513 => ?_) (fun hc513 => ?_)
              · skip
                refine dk_aload_n (pc' := 122) hE dX11_unit_121 rfl rfl rfl ?_
                refine dk_cV (pc' := 125) (as := []) hE lk_X11_250 (ct_X11_isGood l G hGd) dX11_unit_122 rfl is_141 rfl (by decide) (Nat.le_of_ble_eq_true rfl) rfl rfl (fun r515 σ514 hr515 hor515 => ?_)
                obtain ⟨v516, rfl, hfσ514, hpr515⟩ := hr515
                have hsσ514 : σ = σ514 := (funext (fun k => funext (fun j => hfσ514 k j not_false))).symm
                subst hsσ514
                rcases hpr515 with ⟨rfl, hpr515⟩ | ⟨rfl, hpr515⟩
                · skip
                  refine dk_if_ne (tgt := 130) (pc' := 128) hE dX11_unit_125 (by decide) rfl (fun hc517 => ?_) (fun hc517 => absurd hc517 (by decide))
                  have hz518 : σ 141 43 = v493 := by rw [hv493]
                  have hz519 : σ 141 44 = v512 := by rw [hv512]
                  have hz520 : σ 141 44 = v512 := by rw [hv512]
                  exact lp130 m 1 v432 σ (fun k_ j_ h_ => rfl) (by omega) (by omega)
                · skip
                  refine dk_if_ne (tgt := 130) (pc' := 128) hE dX11_unit_125 (by decide) rfl (fun hc521 => absurd hc521 (by decide)) (fun hc521 => ?_)
                  refine dk_iconst (pc' := 129) hE dX11_unit_128 (by decide) rfl ?_
                  have hz522 : σ 141 42 = n := by rw [hn]
                  have hz523 : σ 141 43 = v493 := by rw [hv493]
                  have hz524 : σ 141 44 = v512 := by rw [hv512]
                  have hz525 : σ 141 45 = p := by rw [hp0]
                  exact dk_zret (st := []) hE hR dX11_unit_129 (by omega) ⟨_, rfl, (fun k_ j_ h_ => rfl), ⟨PX_go hP (NX_rf hT) (fun k_ j_ h_ => rfl), Or.inl (by omega)⟩⟩
              · skip
                refine dk_aload_n (pc' := 118) hE dX11_unit_117 rfl rfl rfl ?_
                refine dk_cV (pc' := 121) (as := []) hE lk_X11_257 (ct_X11_wrong l G hGd) dX11_unit_118 rfl is_141 rfl (by decide) (Nat.le_of_ble_eq_true rfl) rfl rfl (fun r527 σ526 hr527 hor527 => ?_)
                obtain ⟨rfl, hfσ526, hpr527⟩ := hr527
                have gi528 : NX σ σ526 := NX_f (NX_rf hT) hfσ526 hpr527
                refine dk_aload_n (pc' := 122) hE dX11_unit_121 rfl rfl rfl ?_
                refine dk_cV (pc' := 125) (as := []) hE lk_X11_250 (ct_X11_isGood l G hGd) dX11_unit_122 rfl is_141 rfl (by decide) (Nat.le_of_ble_eq_true rfl) rfl rfl (fun r530 σ529 hr530 hor530 => ?_)
                obtain ⟨v531, rfl, hfσ529, hpr530⟩ := hr530
                have hsσ529 : σ526 = σ529 := (funext (fun k => funext (fun j => hfσ529 k j not_false))).symm
                subst hsσ529
                rcases hpr530 with ⟨rfl, hpr530⟩ | ⟨rfl, hpr530⟩
                · skip
                  refine dk_if_ne (tgt := 130) (pc' := 128) hE dX11_unit_125 (by decide) rfl (fun hc532 => ?_) (fun hc532 => absurd hc532 (by decide))
                  exact lp130 m 1 v432 σ526 (fun k_ j_ h_ => by rw [hfσ526 k_ j_ (by omega)]) (by omega) (by omega)
                · skip
                  refine dk_if_ne (tgt := 130) (pc' := 128) hE dX11_unit_125 (by decide) rfl (fun hc533 => absurd hc533 (by decide)) (fun hc533 => ?_)
                  refine dk_iconst (pc' := 129) hE dX11_unit_128 (by decide) rfl ?_
                  have hz534 : σ526 141 42 = n := by rw [hfσ526 141 42 (by omega), hn]
                  have hz535 : σ526 141 43 = v493 := by rw [hfσ526 141 43 (by omega), hv493]
                  have hz536 : σ526 141 44 = v512 := by rw [hfσ526 141 44 (by omega), hv512]
                  have hz537 : σ526 141 45 = p := by rw [hfσ526 141 45 (by omega), hp0]
                  have hz538 : σ526 141 6 = σ 141 6 := by rw [hfσ526 141 6 (by omega)]
                  have hz539 : σ526 166 p = σ 166 p := by rw [hfσ526 166 p (by omega)]
                  have hz540 : σ526 167 p = σ 167 p := by rw [hfσ526 167 p (by omega)]
                  have hz541 : σ526 164 (600 * r + n) = σ 164 (600 * r + n) := by rw [hfσ526 164 (600 * r + n) (by omega)]
                  exact dk_zret (st := []) hE hR dX11_unit_129 (by omega) ⟨_, rfl, (fun k_ j_ h_ => by rw [hfσ526 k_ j_ (fun w_ => h_ (w_.elim (fun x0_ => Or.inl (x0_)) (fun y0_ => Or.inr (Or.inl (y0_)))))]), ⟨PX_go hP gi528 (fun k_ j_ h_ => by rw [hfσ526 k_ j_ (by omega)]), Or.inl (by omega)⟩⟩
            · skip
              refine dk_iload_n (pc' := 105) hE dX11_unit_104 rfl rfl rfl ?_
              refine dk_if_eq (tgt := 121) (pc' := 108) hE dX11_unit_105 (by decide) rfl (fun hc542 => absurd hc542 (by decide)) (fun hc542 => ?_)
              refine dk_aload_n (pc' := 109) hE dX11_unit_108 rfl rfl rfl ?_
              refine gf_11_44 (pc' := 112) hE fl_X11_392 dX11_unit_109 is_141 rfl (fun v543 hv543 htv543 hbv543 => ?_)
              refine dk_bipush (pc' := 114) hE dX11_unit_112 (by decide) rfl ?_
              refine dk_icmp_ne (tgt := 121) (pc' := 117) hE dX11_unit_114 (by decide) rfl (fun hc544 => ?_) (fun hc544 => ?_)
              · skip
                refine dk_aload_n (pc' := 122) hE dX11_unit_121 rfl rfl rfl ?_
                refine dk_cV (pc' := 125) (as := []) hE lk_X11_250 (ct_X11_isGood l G hGd) dX11_unit_122 rfl is_141 rfl (by decide) (Nat.le_of_ble_eq_true rfl) rfl rfl (fun r546 σ545 hr546 hor546 => ?_)
                obtain ⟨v547, rfl, hfσ545, hpr546⟩ := hr546
                have hsσ545 : σ = σ545 := (funext (fun k => funext (fun j => hfσ545 k j not_false))).symm
                subst hsσ545
                rcases hpr546 with ⟨rfl, hpr546⟩ | ⟨rfl, hpr546⟩
                · skip
                  refine dk_if_ne (tgt := 130) (pc' := 128) hE dX11_unit_125 (by decide) rfl (fun hc548 => ?_) (fun hc548 => absurd hc548 (by decide))
                  have hz549 : σ 141 43 = v493 := by rw [hv493]
                  have hz550 : σ 141 44 = v543 := by rw [hv543]
                  have hz551 : σ 141 44 = v543 := by rw [hv543]
                  exact lp130 m 1 v432 σ (fun k_ j_ h_ => rfl) (by omega) (by omega)
                · skip
                  refine dk_if_ne (tgt := 130) (pc' := 128) hE dX11_unit_125 (by decide) rfl (fun hc552 => absurd hc552 (by decide)) (fun hc552 => ?_)
                  refine dk_iconst (pc' := 129) hE dX11_unit_128 (by decide) rfl ?_
                  have hz553 : σ 141 42 = n := by rw [hn]
                  have hz554 : σ 141 43 = v493 := by rw [hv493]
                  have hz555 : σ 141 44 = v543 := by rw [hv543]
                  have hz556 : σ 141 45 = p := by rw [hp0]
                  exact dk_zret (st := []) hE hR dX11_unit_129 (by omega) ⟨_, rfl, (fun k_ j_ h_ => rfl), ⟨PX_go hP (NX_rf hT) (fun k_ j_ h_ => rfl), Or.inl (by omega)⟩⟩
              · skip
                refine dk_aload_n (pc' := 118) hE dX11_unit_117 rfl rfl rfl ?_
                refine dk_cV (pc' := 121) (as := []) hE lk_X11_257 (ct_X11_wrong l G hGd) dX11_unit_118 rfl is_141 rfl (by decide) (Nat.le_of_ble_eq_true rfl) rfl rfl (fun r558 σ557 hr558 hor558 => ?_)
                obtain ⟨rfl, hfσ557, hpr558⟩ := hr558
                have gi559 : NX σ σ557 := NX_f (NX_rf hT) hfσ557 hpr558
                refine dk_aload_n (pc' := 122) hE dX11_unit_121 rfl rfl rfl ?_
                refine dk_cV (pc' := 125) (as := []) hE lk_X11_250 (ct_X11_isGood l G hGd) dX11_unit_122 rfl is_141 rfl (by decide) (Nat.le_of_ble_eq_true rfl) rfl rfl (fun r561 σ560 hr561 hor561 => ?_)
                obtain ⟨v562, rfl, hfσ560, hpr561⟩ := hr561
                have hsσ560 : σ557 = σ560 := (funext (fun k => funext (fun j => hfσ560 k j not_false))).symm
                subst hsσ560
                rcases hpr561 with ⟨rfl, hpr561⟩ | ⟨rfl, hpr561⟩
                · skip
                  refine dk_if_ne (tgt := 130) (pc' := 128) hE dX11_unit_125 (by decide) rfl (fun hc563 => ?_) (fun hc563 => absurd hc563 (by decide))
                  exact lp130 m 1 v432 σ557 (fun k_ j_ h_ => by rw [hfσ557 k_ j_ (by omega)]) (by omega) (by omega)
                · skip
                  refine dk_if_ne (tgt := 130) (pc' := 128) hE dX11_unit_125 (by decide) rfl (fun hc564 => absurd hc564 (by decide)) (fun hc564 => ?_)
                  refine dk_iconst (pc' := 129) hE dX11_unit_128 (by decide) rfl ?_
                  have hz565 : σ557 141 42 = n := by rw [hfσ557 141 42 (by omega), hn]
                  have hz566 : σ557 141 43 = v493 := by rw [hfσ557 141 43 (by omega), hv493]
                  have hz567 : σ557 141 44 = v543 := by rw [hfσ557 141 44 (by omega), hv543]
                  have hz568 : σ557 141 45 = p := by rw [hfσ557 141 45 (by omega), hp0]
                  have hz569 : σ557 141 6 = σ 141 6 := by rw [hfσ557 141 6 (by omega)]
                  have hz570 : σ557 166 p = σ 166 p := by rw [hfσ557 166 p (by omega)]
                  have hz571 : σ557 167 p = σ 167 p := by rw [hfσ557 167 p (by omega)]
                  have hz572 : σ557 164 (600 * r + n) = σ 164 (600 * r + n) := by rw [hfσ557 164 (600 * r + n) (by omega)]
                  exact dk_zret (st := []) hE hR dX11_unit_129 (by omega) ⟨_, rfl, (fun k_ j_ h_ => by rw [hfσ557 k_ j_ (fun w_ => h_ (w_.elim (fun x0_ => Or.inl (x0_)) (fun y0_ => Or.inr (Or.inl (y0_)))))]), ⟨PX_go hP gi559 (fun k_ j_ h_ => by rw [hfσ557 k_ j_ (by omega)]), Or.inl (by omega)⟩⟩
        · skip
          refine dk_aload_n (pc' := 80) hE dX11_unit_79 rfl rfl rfl ?_
          refine gf_11_8 (pc' := 83) hE fl_X11_222 dX11_unit_80 is_141 rfl (fun v573 hv573 htv573 hbv573 => ?_)
          refine dk_iconst (pc' := 84) hE dX11_unit_83 (by decide) rfl ?_
          refine dk_icmp_eq (tgt := 91) (pc' := 87) hE dX11_unit_84 (by decide) rfl (fun hc574 => ?_) (fun hc574 => ?_)
          · skip
            refine dk_aload_n (pc' := 92) hE dX11_unit_91 rfl rfl rfl ?_
            refine gf_11_43 (pc' := 95) hE fl_X11_380 dX11_unit_92 is_141 rfl (fun v575 hv575 htv575 hbv575 => ?_)
            refine dk_bipush (pc' := 97) hE dX11_unit_95 (by decide) rfl ?_
            refine dk_icmp_eq (tgt := 117) (pc' := 100) hE dX11_unit_97 (by decide) rfl (fun hc576 => ?_) (fun hc576 => ?_)
            · skip
              refine dk_aload_n (pc' := 118) hE dX11_unit_117 rfl rfl rfl ?_
              refine dk_cV (pc' := 121) (as := []) hE lk_X11_257 (ct_X11_wrong l G hGd) dX11_unit_118 rfl is_141 rfl (by decide) (Nat.le_of_ble_eq_true rfl) rfl rfl (fun r578 σ577 hr578 hor578 => ?_)
              obtain ⟨rfl, hfσ577, hpr578⟩ := hr578
              have gi579 : NX σ σ577 := NX_f (NX_rf hT) hfσ577 hpr578
              refine dk_aload_n (pc' := 122) hE dX11_unit_121 rfl rfl rfl ?_
              refine dk_cV (pc' := 125) (as := []) hE lk_X11_250 (ct_X11_isGood l G hGd) dX11_unit_122 rfl is_141 rfl (by decide) (Nat.le_of_ble_eq_true rfl) rfl rfl (fun r581 σ580 hr581 hor581 => ?_)
              obtain ⟨v582, rfl, hfσ580, hpr581⟩ := hr581
              have hsσ580 : σ577 = σ580 := (funext (fun k => funext (fun j => hfσ580 k j not_false))).symm
              subst hsσ580
              rcases hpr581 with ⟨rfl, hpr581⟩ | ⟨rfl, hpr581⟩
              · skip
                refine dk_if_ne (tgt := 130) (pc' := 128) hE dX11_unit_125 (by decide) rfl (fun hc583 => ?_) (fun hc583 => absurd hc583 (by decide))
                exact lp130 m 1 v432 σ577 (fun k_ j_ h_ => by rw [hfσ577 k_ j_ (by omega)]) (by omega) (by omega)
              · skip
                refine dk_if_ne (tgt := 130) (pc' := 128) hE dX11_unit_125 (by decide) rfl (fun hc584 => absurd hc584 (by decide)) (fun hc584 => ?_)
                refine dk_iconst (pc' := 129) hE dX11_unit_128 (by decide) rfl ?_
                have hz585 : σ577 141 42 = n := by rw [hfσ577 141 42 (by omega), hn]
                have hz586 : σ577 141 43 = v575 := by rw [hfσ577 141 43 (by omega), hv575]
                have hz587 : σ577 141 44 = σ 141 44 := by rw [hfσ577 141 44 (by omega)]
                have hz588 : σ577 141 45 = p := by rw [hfσ577 141 45 (by omega), hp0]
                have hz589 : σ577 141 6 = σ 141 6 := by rw [hfσ577 141 6 (by omega)]
                have hz590 : σ577 166 p = σ 166 p := by rw [hfσ577 166 p (by omega)]
                have hz591 : σ577 167 p = σ 167 p := by rw [hfσ577 167 p (by omega)]
                have hz592 : σ577 164 (600 * r + n) = σ 164 (600 * r + n) := by rw [hfσ577 164 (600 * r + n) (by omega)]
                exact dk_zret (st := []) hE hR dX11_unit_129 (by omega) ⟨_, rfl, (fun k_ j_ h_ => by rw [hfσ577 k_ j_ (fun w_ => h_ (w_.elim (fun x0_ => Or.inl (x0_)) (fun y0_ => Or.inr (Or.inl (y0_)))))]), ⟨PX_go hP gi579 (fun k_ j_ h_ => by rw [hfσ577 k_ j_ (by omega)]), Or.inl (by omega)⟩⟩
            · skip
              refine dk_iload_n (pc' := 101) hE dX11_unit_100 rfl rfl rfl ?_
              refine dk_if_ne (tgt := 108) (pc' := 104) hE dX11_unit_101 (by decide) rfl (fun hc593 => ?_) (fun hc593 => ?_)
              · skip
                refine dk_aload_n (pc' := 109) hE dX11_unit_108 rfl rfl rfl ?_
                refine gf_11_44 (pc' := 112) hE fl_X11_392 dX11_unit_109 is_141 rfl (fun v594 hv594 htv594 hbv594 => ?_)
                refine dk_bipush (pc' := 114) hE dX11_unit_112 (by decide) rfl ?_
                refine dk_icmp_ne (tgt := 121) (pc' := 117) hE dX11_unit_114 (by decide) rfl (fun hc595 => ?_) (fun hc595 => ?_)
                · skip
                  refine dk_aload_n (pc' := 122) hE dX11_unit_121 rfl rfl rfl ?_
                  refine dk_cV (pc' := 125) (as := []) hE lk_X11_250 (ct_X11_isGood l G hGd) dX11_unit_122 rfl is_141 rfl (by decide) (Nat.le_of_ble_eq_true rfl) rfl rfl (fun r597 σ596 hr597 hor597 => ?_)
                  obtain ⟨v598, rfl, hfσ596, hpr597⟩ := hr597
                  have hsσ596 : σ = σ596 := (funext (fun k => funext (fun j => hfσ596 k j not_false))).symm
                  subst hsσ596
                  rcases hpr597 with ⟨rfl, hpr597⟩ | ⟨rfl, hpr597⟩
                  · skip
                    refine dk_if_ne (tgt := 130) (pc' := 128) hE dX11_unit_125 (by decide) rfl (fun hc599 => ?_) (fun hc599 => absurd hc599 (by decide))
                    have hz600 : σ 141 8 = v573 := by rw [hv573]
                    have hz601 : σ 141 43 = v575 := by rw [hv575]
                    have hz602 : σ 141 44 = v594 := by rw [hv594]
                    have hz603 : σ 141 44 = v594 := by rw [hv594]
                    exact lp130 m 1 v432 σ (fun k_ j_ h_ => rfl) (by omega) (by omega)
                  · skip
                    refine dk_if_ne (tgt := 130) (pc' := 128) hE dX11_unit_125 (by decide) rfl (fun hc604 => absurd hc604 (by decide)) (fun hc604 => ?_)
                    refine dk_iconst (pc' := 129) hE dX11_unit_128 (by decide) rfl ?_
                    have hz605 : σ 141 42 = n := by rw [hn]
                    have hz606 : σ 141 43 = v575 := by rw [hv575]
                    have hz607 : σ 141 44 = v594 := by rw [hv594]
                    have hz608 : σ 141 45 = p := by rw [hp0]
                    exact dk_zret (st := []) hE hR dX11_unit_129 (by omega) ⟨_, rfl, (fun k_ j_ h_ => rfl), ⟨PX_go hP (NX_rf hT) (fun k_ j_ h_ => rfl), Or.inl (by omega)⟩⟩
                · skip
                  refine dk_aload_n (pc' := 118) hE dX11_unit_117 rfl rfl rfl ?_
                  refine dk_cV (pc' := 121) (as := []) hE lk_X11_257 (ct_X11_wrong l G hGd) dX11_unit_118 rfl is_141 rfl (by decide) (Nat.le_of_ble_eq_true rfl) rfl rfl (fun r610 σ609 hr610 hor610 => ?_)
                  obtain ⟨rfl, hfσ609, hpr610⟩ := hr610
                  have gi611 : NX σ σ609 := NX_f (NX_rf hT) hfσ609 hpr610
                  refine dk_aload_n (pc' := 122) hE dX11_unit_121 rfl rfl rfl ?_
                  refine dk_cV (pc' := 125) (as := []) hE lk_X11_250 (ct_X11_isGood l G hGd) dX11_unit_122 rfl is_141 rfl (by decide) (Nat.le_of_ble_eq_true rfl) rfl rfl (fun r613 σ612 hr613 hor613 => ?_)
                  obtain ⟨v614, rfl, hfσ612, hpr613⟩ := hr613
                  have hsσ612 : σ609 = σ612 := (funext (fun k => funext (fun j => hfσ612 k j not_false))).symm
                  subst hsσ612
                  rcases hpr613 with ⟨rfl, hpr613⟩ | ⟨rfl, hpr613⟩
                  · skip
                    refine dk_if_ne (tgt := 130) (pc' := 128) hE dX11_unit_125 (by decide) rfl (fun hc615 => ?_) (fun hc615 => absurd hc615 (by decide))
                    exact lp130 m 1 v432 σ609 (fun k_ j_ h_ => by rw [hfσ609 k_ j_ (by omega)]) (by omega) (by omega)
                  · skip
                    refine dk_if_ne (tgt := 130) (pc' := 128) hE dX11_unit_125 (by decide) rfl (fun hc616 => absurd hc616 (by decide)) (fun hc616 => ?_)
                    refine dk_iconst (pc' := 129) hE dX11_unit_128 (by decide) rfl ?_
                    have hz617 : σ609 141 42 = n := by rw [hfσ609 141 42 (by omega), hn]
                    have hz618 : σ609 141 43 = v575 := by rw [hfσ609 141 43 (by omega), hv575]
                    have hz619 : σ609 141 44 = v594 := by rw [hfσ609 141 44 (by omega), hv594]
                    have hz620 : σ609 141 45 = p := by rw [hfσ609 141 45 (by omega), hp0]
                    have hz621 : σ609 141 6 = σ 141 6 := by rw [hfσ609 141 6 (by omega)]
                    have hz622 : σ609 166 p = σ 166 p := by rw [hfσ609 166 p (by omega)]
                    have hz623 : σ609 167 p = σ 167 p := by rw [hfσ609 167 p (by omega)]
                    have hz624 : σ609 164 (600 * r + n) = σ 164 (600 * r + n) := by rw [hfσ609 164 (600 * r + n) (by omega)]
                    exact dk_zret (st := []) hE hR dX11_unit_129 (by omega) ⟨_, rfl, (fun k_ j_ h_ => by rw [hfσ609 k_ j_ (fun w_ => h_ (w_.elim (fun x0_ => Or.inl (x0_)) (fun y0_ => Or.inr (Or.inl (y0_)))))]), ⟨PX_go hP gi611 (fun k_ j_ h_ => by rw [hfσ609 k_ j_ (by omega)]), Or.inl (by omega)⟩⟩
              · skip
                refine dk_iload_n (pc' := 105) hE dX11_unit_104 rfl rfl rfl ?_
                refine dk_if_eq (tgt := 121) (pc' := 108) hE dX11_unit_105 (by decide) rfl (fun hc625 => absurd hc625 (by decide)) (fun hc625 => ?_)
                refine dk_aload_n (pc' := 109) hE dX11_unit_108 rfl rfl rfl ?_
                refine gf_11_44 (pc' := 112) hE fl_X11_392 dX11_unit_109 is_141 rfl (fun v626 hv626 htv626 hbv626 => ?_)
                refine dk_bipush (pc' := 114) hE dX11_unit_112 (by decide) rfl ?_
                refine dk_icmp_ne (tgt := 121) (pc' := 117) hE dX11_unit_114 (by decide) rfl (fun hc627 => ?_) (fun hc627 => ?_)
                · skip
                  refine dk_aload_n (pc' := 122) hE dX11_unit_121 rfl rfl rfl ?_
                  refine dk_cV (pc' := 125) (as := []) hE lk_X11_250 (ct_X11_isGood l G hGd) dX11_unit_122 rfl is_141 rfl (by decide) (Nat.le_of_ble_eq_true rfl) rfl rfl (fun r629 σ628 hr629 hor629 => ?_)
                  obtain ⟨v630, rfl, hfσ628, hpr629⟩ := hr629
                  have hsσ628 : σ = σ628 := (funext (fun k => funext (fun j => hfσ628 k j not_false))).symm
                  subst hsσ628
                  rcases hpr629 with ⟨rfl, hpr629⟩ | ⟨rfl, hpr629⟩
                  · skip
                    refine dk_if_ne (tgt := 130) (pc' := 128) hE dX11_unit_125 (by decide) rfl (fun hc631 => ?_) (fun hc631 => absurd hc631 (by decide))
                    have hz632 : σ 141 8 = v573 := by rw [hv573]
                    have hz633 : σ 141 43 = v575 := by rw [hv575]
                    have hz634 : σ 141 44 = v626 := by rw [hv626]
                    have hz635 : σ 141 44 = v626 := by rw [hv626]
                    exact lp130 m 1 v432 σ (fun k_ j_ h_ => rfl) (by omega) (by omega)
                  · skip
                    refine dk_if_ne (tgt := 130) (pc' := 128) hE dX11_unit_125 (by decide) rfl (fun hc636 => absurd hc636 (by decide)) (fun hc636 => ?_)
                    refine dk_iconst (pc' := 129) hE dX11_unit_128 (by decide) rfl ?_
                    have hz637 : σ 141 42 = n := by rw [hn]
                    have hz638 : σ 141 43 = v575 := by rw [hv575]
                    have hz639 : σ 141 44 = v626 := by rw [hv626]
                    have hz640 : σ 141 45 = p := by rw [hp0]
                    exact dk_zret (st := []) hE hR dX11_unit_129 (by omega) ⟨_, rfl, (fun k_ j_ h_ => rfl), ⟨PX_go hP (NX_rf hT) (fun k_ j_ h_ => rfl), Or.inl (by omega)⟩⟩
                · skip
                  refine dk_aload_n (pc' := 118) hE dX11_unit_117 rfl rfl rfl ?_
                  refine dk_cV (pc' := 121) (as := []) hE lk_X11_257 (ct_X11_wrong l G hGd) dX11_unit_118 rfl is_141 rfl (by decide) (Nat.le_of_ble_eq_true rfl) rfl rfl (fun r642 σ641 hr642 hor642 => ?_)
                  obtain ⟨rfl, hfσ641, hpr642⟩ := hr642
                  have gi643 : NX σ σ641 := NX_f (NX_rf hT) hfσ641 hpr642
                  refine dk_aload_n (pc' := 122) hE dX11_unit_121 rfl rfl rfl ?_
                  refine dk_cV (pc' := 125) (as := []) hE lk_X11_250 (ct_X11_isGood l G hGd) dX11_unit_122 rfl is_141 rfl (by decide) (Nat.le_of_ble_eq_true rfl) rfl rfl (fun r645 σ644 hr645 hor645 => ?_)
                  obtain ⟨v646, rfl, hfσ644, hpr645⟩ := hr645
                  have hsσ644 : σ641 = σ644 := (funext (fun k => funext (fun j => hfσ644 k j not_false))).symm
                  subst hsσ644
                  rcases hpr645 with ⟨rfl, hpr645⟩ | ⟨rfl, hpr645⟩
                  · skip
                    refine dk_if_ne (tgt := 130) (pc' := 128) hE dX11_unit_125 (by decide) rfl (fun hc647 => ?_) (fun hc647 => absurd hc647 (by decide))
                    exact lp130 m 1 v432 σ641 (fun k_ j_ h_ => by rw [hfσ641 k_ j_ (by omega)]) (by omega) (by omega)
                  · skip
                    refine dk_if_ne (tgt := 130) (pc' := 128) hE dX11_unit_125 (by decide) rfl (fun hc648 => absurd hc648 (by decide)) (fun hc648 => ?_)
                    refine dk_iconst (pc' := 129) hE dX11_unit_128 (by decide) rfl ?_
                    have hz649 : σ641 141 42 = n := by rw [hfσ641 141 42 (by omega), hn]
                    have hz650 : σ641 141 43 = v575 := by rw [hfσ641 141 43 (by omega), hv575]
                    have hz651 : σ641 141 44 = v626 := by rw [hfσ641 141 44 (by omega), hv626]
                    have hz652 : σ641 141 45 = p := by rw [hfσ641 141 45 (by omega), hp0]
                    have hz653 : σ641 141 6 = σ 141 6 := by rw [hfσ641 141 6 (by omega)]
                    have hz654 : σ641 166 p = σ 166 p := by rw [hfσ641 166 p (by omega)]
                    have hz655 : σ641 167 p = σ 167 p := by rw [hfσ641 167 p (by omega)]
                    have hz656 : σ641 164 (600 * r + n) = σ 164 (600 * r + n) := by rw [hfσ641 164 (600 * r + n) (by omega)]
                    exact dk_zret (st := []) hE hR dX11_unit_129 (by omega) ⟨_, rfl, (fun k_ j_ h_ => by rw [hfσ641 k_ j_ (fun w_ => h_ (w_.elim (fun x0_ => Or.inl (x0_)) (fun y0_ => Or.inr (Or.inl (y0_)))))]), ⟨PX_go hP gi643 (fun k_ j_ h_ => by rw [hfσ641 k_ j_ (by omega)]), Or.inl (by omega)⟩⟩
          · skip
            refine dk_iload_n (pc' := 88) hE dX11_unit_87 rfl rfl rfl ?_
            refine dk_if_eq (tgt := 117) (pc' := 91) hE dX11_unit_88 (by decide) rfl (fun hc657 => absurd hc657 (by decide)) (fun hc657 => ?_)
            refine dk_aload_n (pc' := 92) hE dX11_unit_91 rfl rfl rfl ?_
            refine gf_11_43 (pc' := 95) hE fl_X11_380 dX11_unit_92 is_141 rfl (fun v658 hv658 htv658 hbv658 => ?_)
            refine dk_bipush (pc' := 97) hE dX11_unit_95 (by decide) rfl ?_
            refine dk_icmp_eq (tgt := 117) (pc' := 100) hE dX11_unit_97 (by decide) rfl (fun hc659 => ?_) (fun hc659 => ?_)
            · skip
              refine dk_aload_n (pc' := 118) hE dX11_unit_117 rfl rfl rfl ?_
              refine dk_cV (pc' := 121) (as := []) hE lk_X11_257 (ct_X11_wrong l G hGd) dX11_unit_118 rfl is_141 rfl (by decide) (Nat.le_of_ble_eq_true rfl) rfl rfl (fun r661 σ660 hr661 hor661 => ?_)
              obtain ⟨rfl, hfσ660, hpr661⟩ := hr661
              have gi662 : NX σ σ660 := NX_f (NX_rf hT) hfσ660 hpr661
              refine dk_aload_n (pc' := 122) hE dX11_unit_121 rfl rfl rfl ?_
              refine dk_cV (pc' := 125) (as := []) hE lk_X11_250 (ct_X11_isGood l G hGd) dX11_unit_122 rfl is_141 rfl (by decide) (Nat.le_of_ble_eq_true rfl) rfl rfl (fun r664 σ663 hr664 hor664 => ?_)
              obtain ⟨v665, rfl, hfσ663, hpr664⟩ := hr664
              have hsσ663 : σ660 = σ663 := (funext (fun k => funext (fun j => hfσ663 k j not_false))).symm
              subst hsσ663
              rcases hpr664 with ⟨rfl, hpr664⟩ | ⟨rfl, hpr664⟩
              · skip
                refine dk_if_ne (tgt := 130) (pc' := 128) hE dX11_unit_125 (by decide) rfl (fun hc666 => ?_) (fun hc666 => absurd hc666 (by decide))
                exact lp130 m 1 v432 σ660 (fun k_ j_ h_ => by rw [hfσ660 k_ j_ (by omega)]) (by omega) (by omega)
              · skip
                refine dk_if_ne (tgt := 130) (pc' := 128) hE dX11_unit_125 (by decide) rfl (fun hc667 => absurd hc667 (by decide)) (fun hc667 => ?_)
                refine dk_iconst (pc' := 129) hE dX11_unit_128 (by decide) rfl ?_
                have hz668 : σ660 141 42 = n := by rw [hfσ660 141 42 (by omega), hn]
                have hz669 : σ660 141 43 = v658 := by rw [hfσ660 141 43 (by omega), hv658]
                have hz670 : σ660 141 44 = σ 141 44 := by rw [hfσ660 141 44 (by omega)]
                have hz671 : σ660 141 45 = p := by rw [hfσ660 141 45 (by omega), hp0]
                have hz672 : σ660 141 6 = σ 141 6 := by rw [hfσ660 141 6 (by omega)]
                have hz673 : σ660 166 p = σ 166 p := by rw [hfσ660 166 p (by omega)]
                have hz674 : σ660 167 p = σ 167 p := by rw [hfσ660 167 p (by omega)]
                have hz675 : σ660 164 (600 * r + n) = σ 164 (600 * r + n) := by rw [hfσ660 164 (600 * r + n) (by omega)]
                exact dk_zret (st := []) hE hR dX11_unit_129 (by omega) ⟨_, rfl, (fun k_ j_ h_ => by rw [hfσ660 k_ j_ (fun w_ => h_ (w_.elim (fun x0_ => Or.inl (x0_)) (fun y0_ => Or.inr (Or.inl (y0_)))))]), ⟨PX_go hP gi662 (fun k_ j_ h_ => by rw [hfσ660 k_ j_ (by omega)]), Or.inl (by omega)⟩⟩
            · skip
              refine dk_iload_n (pc' := 101) hE dX11_unit_100 rfl rfl rfl ?_
              refine dk_if_ne (tgt := 108) (pc' := 104) hE dX11_unit_101 (by decide) rfl (fun hc676 => ?_) (fun hc676 => ?_)
              · skip
                refine dk_aload_n (pc' := 109) hE dX11_unit_108 rfl rfl rfl ?_
                refine gf_11_44 (pc' := 112) hE fl_X11_392 dX11_unit_109 is_141 rfl (fun v677 hv677 htv677 hbv677 => ?_)
                refine dk_bipush (pc' := 114) hE dX11_unit_112 (by decide) rfl ?_
                refine dk_icmp_ne (tgt := 121) (pc' := 117) hE dX11_unit_114 (by decide) rfl (fun hc678 => ?_) (fun hc678 => ?_)
                · skip
                  refine dk_aload_n (pc' := 122) hE dX11_unit_121 rfl rfl rfl ?_
                  refine dk_cV (pc' := 125) (as := []) hE lk_X11_250 (ct_X11_isGood l G hGd) dX11_unit_122 rfl is_141 rfl (by decide) (Nat.le_of_ble_eq_true rfl) rfl rfl (fun r680 σ679 hr680 hor680 => ?_)
                  obtain ⟨v681, rfl, hfσ679, hpr680⟩ := hr680
                  have hsσ679 : σ = σ679 := (funext (fun k => funext (fun j => hfσ679 k j not_false))).symm
                  subst hsσ679
                  rcases hpr680 with ⟨rfl, hpr680⟩ | ⟨rfl, hpr680⟩
                  · skip
                    refine dk_if_ne (tgt := 130) (pc' := 128) hE dX11_unit_125 (by decide) rfl (fun hc682 => ?_) (fun hc682 => absurd hc682 (by decide))
                    have hz683 : σ 141 8 = v573 := by rw [hv573]
                    have hz684 : σ 141 43 = v658 := by rw [hv658]
                    have hz685 : σ 141 44 = v677 := by rw [hv677]
                    have hz686 : σ 141 44 = v677 := by rw [hv677]
                    exact lp130 m 1 v432 σ (fun k_ j_ h_ => rfl) (by omega) (by omega)
                  · skip
                    refine dk_if_ne (tgt := 130) (pc' := 128) hE dX11_unit_125 (by decide) rfl (fun hc687 => absurd hc687 (by decide)) (fun hc687 => ?_)
                    refine dk_iconst (pc' := 129) hE dX11_unit_128 (by decide) rfl ?_
                    have hz688 : σ 141 42 = n := by rw [hn]
                    have hz689 : σ 141 43 = v658 := by rw [hv658]
                    have hz690 : σ 141 44 = v677 := by rw [hv677]
                    have hz691 : σ 141 45 = p := by rw [hp0]
                    exact dk_zret (st := []) hE hR dX11_unit_129 (by omega) ⟨_, rfl, (fun k_ j_ h_ => rfl), ⟨PX_go hP (NX_rf hT) (fun k_ j_ h_ => rfl), Or.inl (by omega)⟩⟩
                · skip
                  refine dk_aload_n (pc' := 118) hE dX11_unit_117 rfl rfl rfl ?_
                  refine dk_cV (pc' := 121) (as := []) hE lk_X11_257 (ct_X11_wrong l G hGd) dX11_unit_118 rfl is_141 rfl (by decide) (Nat.le_of_ble_eq_true rfl) rfl rfl (fun r693 σ692 hr693 hor693 => ?_)
                  obtain ⟨rfl, hfσ692, hpr693⟩ := hr693
                  have gi694 : NX σ σ692 := NX_f (NX_rf hT) hfσ692 hpr693
                  refine dk_aload_n (pc' := 122) hE dX11_unit_121 rfl rfl rfl ?_
                  refine dk_cV (pc' := 125) (as := []) hE lk_X11_250 (ct_X11_isGood l G hGd) dX11_unit_122 rfl is_141 rfl (by decide) (Nat.le_of_ble_eq_true rfl) rfl rfl (fun r696 σ695 hr696 hor696 => ?_)
                  obtain ⟨v697, rfl, hfσ695, hpr696⟩ := hr696
                  have hsσ695 : σ692 = σ695 := (funext (fun k => funext (fun j => hfσ695 k j not_false))).symm
                  subst hsσ695
                  rcases hpr696 with ⟨rfl, hpr696⟩ | ⟨rfl, hpr696⟩
                  · skip
                    refine dk_if_ne (tgt := 130) (pc' := 128) hE dX11_unit_125 (by decide) rfl (fun hc698 => ?_) (fun hc698 => absurd hc698 (by decide))
                    exact lp130 m 1 v432 σ692 (fun k_ j_ h_ => by rw [hfσ692 k_ j_ (by omega)]) (by omega) (by omega)
                  · skip
                    refine dk_if_ne (tgt := 130) (pc' := 128) hE dX11_unit_125 (by decide) rfl (fun hc699 => absurd hc699 (by decide)) (fun hc699 => ?_)
                    refine dk_iconst (pc' := 129) hE dX11_unit_128 (by decide) rfl ?_
                    have hz700 : σ692 141 42 = n := by rw [hfσ692 141 42 (by omega), hn]
                    have hz701 : σ692 141 43 = v658 := by rw [hfσ692 141 43 (by omega), hv658]
                    have hz702 : σ692 141 44 = v677 := by rw [hfσ692 141 44 (by omega), hv677]
                    have hz703 : σ692 141 45 = p := by rw [hfσ692 141 45 (by omega), hp0]
                    have hz704 : σ692 141 6 = σ 141 6 := by rw [hfσ692 141 6 (by omega)]
                    have hz705 : σ692 166 p = σ 166 p := by rw [hfσ692 166 p (by omega)]
                    have hz706 : σ692 167 p = σ 167 p := by rw [hfσ692 167 p (by omega)]
                    have hz707 : σ692 164 (600 * r + n) = σ 164 (600 * r + n) := by rw [hfσ692 164 (600 * r + n) (by omega)]
                    exact dk_zret (st := []) hE hR dX11_unit_129 (by omega) ⟨_, rfl, (fun k_ j_ h_ => by rw [hfσ692 k_ j_ (fun w_ => h_ (w_.elim (fun x0_ => Or.inl (x0_)) (fun y0_ => Or.inr (Or.inl (y0_)))))]), ⟨PX_go hP gi694 (fun k_ j_ h_ => by rw [hfσ692 k_ j_ (by omega)]), Or.inl (by omega)⟩⟩
              · skip
                refine dk_iload_n (pc' := 105) hE dX11_unit_104 rfl rfl rfl ?_
                refine dk_if_eq (tgt := 121) (pc' := 108) hE dX11_unit_105 (by decide) rfl (fun hc708 => absurd hc708 (by decide)) (fun hc708 => ?_)
                refine dk_aload_n (pc' := 109) hE dX11_unit_108 rfl rfl rfl ?_
                refine gf_11_44 (pc' := 112) hE fl_X11_392 dX11_unit_109 is_141 rfl (fun v709 hv709 htv709 hbv709 => ?_)
                refine dk_bipush (pc' := 114) hE dX11_unit_112 (by decide) rfl ?_
                refine dk_icmp_ne (tgt := 121) (pc' := 117) hE dX11_unit_114 (by decide) rfl (fun hc710 => ?_) (fun hc710 => ?_)
                · skip
                  refine dk_aload_n (pc' := 122) hE dX11_unit_121 rfl rfl rfl ?_
                  refine dk_cV (pc' := 125) (as := []) hE lk_X11_250 (ct_X11_isGood l G hGd) dX11_unit_122 rfl is_141 rfl (by decide) (Nat.le_of_ble_eq_true rfl) rfl rfl (fun r712 σ711 hr712 hor712 => ?_)
                  obtain ⟨v713, rfl, hfσ711, hpr712⟩ := hr712
                  have hsσ711 : σ = σ711 := (funext (fun k => funext (fun j => hfσ711 k j not_false))).symm
                  subst hsσ711
                  rcases hpr712 with ⟨rfl, hpr712⟩ | ⟨rfl, hpr712⟩
                  · skip
                    refine dk_if_ne (tgt := 130) (pc' := 128) hE dX11_unit_125 (by decide) rfl (fun hc714 => ?_) (fun hc714 => absurd hc714 (by decide))
                    have hz715 : σ 141 8 = v573 := by rw [hv573]
                    have hz716 : σ 141 43 = v658 := by rw [hv658]
                    have hz717 : σ 141 44 = v709 := by rw [hv709]
                    have hz718 : σ 141 44 = v709 := by rw [hv709]
                    exact lp130 m 1 v432 σ (fun k_ j_ h_ => rfl) (by omega) (by omega)
                  · skip
                    refine dk_if_ne (tgt := 130) (pc' := 128) hE dX11_unit_125 (by decide) rfl (fun hc719 => absurd hc719 (by decide)) (fun hc719 => ?_)
                    refine dk_iconst (pc' := 129) hE dX11_unit_128 (by decide) rfl ?_
                    have hz720 : σ 141 42 = n := by rw [hn]
                    have hz721 : σ 141 43 = v658 := by rw [hv658]
                    have hz722 : σ 141 44 = v709 := by rw [hv709]
                    have hz723 : σ 141 45 = p := by rw [hp0]
                    exact dk_zret (st := []) hE hR dX11_unit_129 (by omega) ⟨_, rfl, (fun k_ j_ h_ => rfl), ⟨PX_go hP (NX_rf hT) (fun k_ j_ h_ => rfl), Or.inl (by omega)⟩⟩
                · skip
                  refine dk_aload_n (pc' := 118) hE dX11_unit_117 rfl rfl rfl ?_
                  refine dk_cV (pc' := 121) (as := []) hE lk_X11_257 (ct_X11_wrong l G hGd) dX11_unit_118 rfl is_141 rfl (by decide) (Nat.le_of_ble_eq_true rfl) rfl rfl (fun r725 σ724 hr725 hor725 => ?_)
                  obtain ⟨rfl, hfσ724, hpr725⟩ := hr725
                  have gi726 : NX σ σ724 := NX_f (NX_rf hT) hfσ724 hpr725
                  refine dk_aload_n (pc' := 122) hE dX11_unit_121 rfl rfl rfl ?_
                  refine dk_cV (pc' := 125) (as := []) hE lk_X11_250 (ct_X11_isGood l G hGd) dX11_unit_122 rfl is_141 rfl (by decide) (Nat.le_of_ble_eq_true rfl) rfl rfl (fun r728 σ727 hr728 hor728 => ?_)
                  obtain ⟨v729, rfl, hfσ727, hpr728⟩ := hr728
                  have hsσ727 : σ724 = σ727 := (funext (fun k => funext (fun j => hfσ727 k j not_false))).symm
                  subst hsσ727
                  rcases hpr728 with ⟨rfl, hpr728⟩ | ⟨rfl, hpr728⟩
                  · skip
                    refine dk_if_ne (tgt := 130) (pc' := 128) hE dX11_unit_125 (by decide) rfl (fun hc730 => ?_) (fun hc730 => absurd hc730 (by decide))
                    exact lp130 m 1 v432 σ724 (fun k_ j_ h_ => by rw [hfσ724 k_ j_ (by omega)]) (by omega) (by omega)
                  · skip
                    refine dk_if_ne (tgt := 130) (pc' := 128) hE dX11_unit_125 (by decide) rfl (fun hc731 => absurd hc731 (by decide)) (fun hc731 => ?_)
                    refine dk_iconst (pc' := 129) hE dX11_unit_128 (by decide) rfl ?_
                    have hz732 : σ724 141 42 = n := by rw [hfσ724 141 42 (by omega), hn]
                    have hz733 : σ724 141 43 = v658 := by rw [hfσ724 141 43 (by omega), hv658]
                    have hz734 : σ724 141 44 = v709 := by rw [hfσ724 141 44 (by omega), hv709]
                    have hz735 : σ724 141 45 = p := by rw [hfσ724 141 45 (by omega), hp0]
                    have hz736 : σ724 141 6 = σ 141 6 := by rw [hfσ724 141 6 (by omega)]
                    have hz737 : σ724 166 p = σ 166 p := by rw [hfσ724 166 p (by omega)]
                    have hz738 : σ724 167 p = σ 167 p := by rw [hfσ724 167 p (by omega)]
                    have hz739 : σ724 164 (600 * r + n) = σ 164 (600 * r + n) := by rw [hfσ724 164 (600 * r + n) (by omega)]
                    exact dk_zret (st := []) hE hR dX11_unit_129 (by omega) ⟨_, rfl, (fun k_ j_ h_ => by rw [hfσ724 k_ j_ (fun w_ => h_ (w_.elim (fun x0_ => Or.inl (x0_)) (fun y0_ => Or.inr (Or.inl (y0_)))))]), ⟨PX_go hP gi726 (fun k_ j_ h_ => by rw [hfσ724 k_ j_ (by omega)]), Or.inl (by omega)⟩⟩
    · skip
      refine dk_istore_n (pc' := 64) (ls' := [(4, 141), (9, 0), (0, m), (0, 0), (9, 0), (9, 0)]) hE dX11_unit_63 rfl rfl (by decide) rfl ?_
      refine dk_aload_n (pc' := 65) hE dX11_unit_64 rfl rfl rfl ?_
      refine dk_cV (pc' := 68) (as := []) hE lk_X11_404 (ct_X11_wordHere l G hGd) dX11_unit_65 rfl is_141 rfl (by decide) (Nat.le_of_ble_eq_true rfl) rfl rfl (fun r741 σ740 hr741 hor741 => ?_)
      obtain ⟨v742, rfl, hfσ740, hpr741⟩ := hr741
      have hsσ740 : σ = σ740 := (funext (fun k => funext (fun j => hfσ740 k j not_false))).symm
      subst hsσ740
      refine dk_istore (pc' := 70) (ls' := [(4, 141), (9, 0), (0, m), (0, 0), (0, v742), (9, 0)]) hE dX11_unit_68 rfl (by decide) rfl ?_
      refine dk_iload_n (pc' := 71) hE dX11_unit_70 rfl rfl rfl ?_
      refine dk_if_ne (tgt := 100) (pc' := 74) hE dX11_unit_71 (by decide) rfl (fun hc743 => ?_) (fun hc743 => ?_)
      · skip
        refine dk_iload_n (pc' := 101) hE dX11_unit_100 rfl rfl rfl ?_
        refine dk_if_ne (tgt := 108) (pc' := 104) hE dX11_unit_101 (by decide) rfl (fun hc744 => ?_) (fun hc744 => ?_)
        · skip
          refine dk_aload_n (pc' := 109) hE dX11_unit_108 rfl rfl rfl ?_
          refine gf_11_44 (pc' := 112) hE fl_X11_392 dX11_unit_109 is_141 rfl (fun v745 hv745 htv745 hbv745 => ?_)
          refine dk_bipush (pc' := 114) hE dX11_unit_112 (by decide) rfl ?_
          refine dk_icmp_ne (tgt := 121) (pc' := 117) hE dX11_unit_114 (by decide) rfl (fun hc746 => ?_) (fun hc746 => ?_)
          · skip
            refine dk_aload_n (pc' := 122) hE dX11_unit_121 rfl rfl rfl ?_
            refine dk_cV (pc' := 125) (as := []) hE lk_X11_250 (ct_X11_isGood l G hGd) dX11_unit_122 rfl is_141 rfl (by decide) (Nat.le_of_ble_eq_true rfl) rfl rfl (fun r748 σ747 hr748 hor748 => ?_)
            obtain ⟨v749, rfl, hfσ747, hpr748⟩ := hr748
            have hsσ747 : σ = σ747 := (funext (fun k => funext (fun j => hfσ747 k j not_false))).symm
            subst hsσ747
            rcases hpr748 with ⟨rfl, hpr748⟩ | ⟨rfl, hpr748⟩
            · skip
              refine dk_if_ne (tgt := 130) (pc' := 128) hE dX11_unit_125 (by decide) rfl (fun hc750 => ?_) (fun hc750 => absurd hc750 (by decide))
              have hz751 : σ 141 44 = v745 := by rw [hv745]
              have hz752 : σ 141 44 = v745 := by rw [hv745]
              exact lp130 m 0 v742 σ (fun k_ j_ h_ => rfl) (by omega) (by omega)
            · skip
              refine dk_if_ne (tgt := 130) (pc' := 128) hE dX11_unit_125 (by decide) rfl (fun hc753 => absurd hc753 (by decide)) (fun hc753 => ?_)
              refine dk_iconst (pc' := 129) hE dX11_unit_128 (by decide) rfl ?_
              have hz754 : σ 141 42 = n := by rw [hn]
              have hz755 : σ 141 44 = v745 := by rw [hv745]
              have hz756 : σ 141 45 = p := by rw [hp0]
              exact dk_zret (st := []) hE hR dX11_unit_129 (by omega) ⟨_, rfl, (fun k_ j_ h_ => rfl), ⟨PX_go hP (NX_rf hT) (fun k_ j_ h_ => rfl), Or.inl (by omega)⟩⟩
          · skip
            refine dk_aload_n (pc' := 118) hE dX11_unit_117 rfl rfl rfl ?_
            refine dk_cV (pc' := 121) (as := []) hE lk_X11_257 (ct_X11_wrong l G hGd) dX11_unit_118 rfl is_141 rfl (by decide) (Nat.le_of_ble_eq_true rfl) rfl rfl (fun r758 σ757 hr758 hor758 => ?_)
            obtain ⟨rfl, hfσ757, hpr758⟩ := hr758
            have gi759 : NX σ σ757 := NX_f (NX_rf hT) hfσ757 hpr758
            refine dk_aload_n (pc' := 122) hE dX11_unit_121 rfl rfl rfl ?_
            refine dk_cV (pc' := 125) (as := []) hE lk_X11_250 (ct_X11_isGood l G hGd) dX11_unit_122 rfl is_141 rfl (by decide) (Nat.le_of_ble_eq_true rfl) rfl rfl (fun r761 σ760 hr761 hor761 => ?_)
            obtain ⟨v762, rfl, hfσ760, hpr761⟩ := hr761
            have hsσ760 : σ757 = σ760 := (funext (fun k => funext (fun j => hfσ760 k j not_false))).symm
            subst hsσ760
            rcases hpr761 with ⟨rfl, hpr761⟩ | ⟨rfl, hpr761⟩
            · skip
              refine dk_if_ne (tgt := 130) (pc' := 128) hE dX11_unit_125 (by decide) rfl (fun hc763 => ?_) (fun hc763 => absurd hc763 (by decide))
              exact lp130 m 0 v742 σ757 (fun k_ j_ h_ => by rw [hfσ757 k_ j_ (by omega)]) (by omega) (by omega)
            · skip
              refine dk_if_ne (tgt := 130) (pc' := 128) hE dX11_unit_125 (by decide) rfl (fun hc764 => absurd hc764 (by decide)) (fun hc764 => ?_)
              refine dk_iconst (pc' := 129) hE dX11_unit_128 (by decide) rfl ?_
              have hz765 : σ757 141 42 = n := by rw [hfσ757 141 42 (by omega), hn]
              have hz766 : σ757 141 43 = σ 141 43 := by rw [hfσ757 141 43 (by omega)]
              have hz767 : σ757 141 44 = v745 := by rw [hfσ757 141 44 (by omega), hv745]
              have hz768 : σ757 141 45 = p := by rw [hfσ757 141 45 (by omega), hp0]
              have hz769 : σ757 141 6 = σ 141 6 := by rw [hfσ757 141 6 (by omega)]
              have hz770 : σ757 166 p = σ 166 p := by rw [hfσ757 166 p (by omega)]
              have hz771 : σ757 167 p = σ 167 p := by rw [hfσ757 167 p (by omega)]
              have hz772 : σ757 164 (600 * r + n) = σ 164 (600 * r + n) := by rw [hfσ757 164 (600 * r + n) (by omega)]
              exact dk_zret (st := []) hE hR dX11_unit_129 (by omega) ⟨_, rfl, (fun k_ j_ h_ => by rw [hfσ757 k_ j_ (fun w_ => h_ (w_.elim (fun x0_ => Or.inl (x0_)) (fun y0_ => Or.inr (Or.inl (y0_)))))]), ⟨PX_go hP gi759 (fun k_ j_ h_ => by rw [hfσ757 k_ j_ (by omega)]), Or.inl (by omega)⟩⟩
        · skip
          refine dk_iload_n (pc' := 105) hE dX11_unit_104 rfl rfl rfl ?_
          refine dk_if_eq (tgt := 121) (pc' := 108) hE dX11_unit_105 (by decide) rfl (fun hc773 => ?_) (fun hc773 => absurd hc773 (by decide))
          refine dk_aload_n (pc' := 122) hE dX11_unit_121 rfl rfl rfl ?_
          refine dk_cV (pc' := 125) (as := []) hE lk_X11_250 (ct_X11_isGood l G hGd) dX11_unit_122 rfl is_141 rfl (by decide) (Nat.le_of_ble_eq_true rfl) rfl rfl (fun r775 σ774 hr775 hor775 => ?_)
          obtain ⟨v776, rfl, hfσ774, hpr775⟩ := hr775
          have hsσ774 : σ = σ774 := (funext (fun k => funext (fun j => hfσ774 k j not_false))).symm
          subst hsσ774
          rcases hpr775 with ⟨rfl, hpr775⟩ | ⟨rfl, hpr775⟩
          · skip
            refine dk_if_ne (tgt := 130) (pc' := 128) hE dX11_unit_125 (by decide) rfl (fun hc777 => ?_) (fun hc777 => absurd hc777 (by decide))
            exact lp130 m 0 v742 σ (fun k_ j_ h_ => rfl) (by omega) (by omega)
          · skip
            refine dk_if_ne (tgt := 130) (pc' := 128) hE dX11_unit_125 (by decide) rfl (fun hc778 => absurd hc778 (by decide)) (fun hc778 => ?_)
            refine dk_iconst (pc' := 129) hE dX11_unit_128 (by decide) rfl ?_
            have hz779 : σ 141 42 = n := by rw [hn]
            have hz780 : σ 141 45 = p := by rw [hp0]
            exact dk_zret (st := []) hE hR dX11_unit_129 (by omega) ⟨_, rfl, (fun k_ j_ h_ => rfl), ⟨PX_go hP (NX_rf hT) (fun k_ j_ h_ => rfl), Or.inl (by omega)⟩⟩
      · skip
        refine dk_iload (pc' := 76) hE dX11_unit_74 rfl rfl ?_
        refine dk_if_ne (tgt := 91) (pc' := 79) hE dX11_unit_76 (by decide) rfl (fun hc781 => ?_) (fun hc781 => ?_)
        · skip
          refine dk_aload_n (pc' := 92) hE dX11_unit_91 rfl rfl rfl ?_
          refine gf_11_43 (pc' := 95) hE fl_X11_380 dX11_unit_92 is_141 rfl (fun v782 hv782 htv782 hbv782 => ?_)
          refine dk_bipush (pc' := 97) hE dX11_unit_95 (by decide) rfl ?_
          refine dk_icmp_eq (tgt := 117) (pc' := 100) hE dX11_unit_97 (by decide) rfl (fun hc783 => ?_) (fun hc783 => ?_)
          · skip
            refine dk_aload_n (pc' := 118) hE dX11_unit_117 rfl rfl rfl ?_
            refine dk_cV (pc' := 121) (as := []) hE lk_X11_257 (ct_X11_wrong l G hGd) dX11_unit_118 rfl is_141 rfl (by decide) (Nat.le_of_ble_eq_true rfl) rfl rfl (fun r785 σ784 hr785 hor785 => ?_)
            obtain ⟨rfl, hfσ784, hpr785⟩ := hr785
            have gi786 : NX σ σ784 := NX_f (NX_rf hT) hfσ784 hpr785
            refine dk_aload_n (pc' := 122) hE dX11_unit_121 rfl rfl rfl ?_
            refine dk_cV (pc' := 125) (as := []) hE lk_X11_250 (ct_X11_isGood l G hGd) dX11_unit_122 rfl is_141 rfl (by decide) (Nat.le_of_ble_eq_true rfl) rfl rfl (fun r788 σ787 hr788 hor788 => ?_)
            obtain ⟨v789, rfl, hfσ787, hpr788⟩ := hr788
            have hsσ787 : σ784 = σ787 := (funext (fun k => funext (fun j => hfσ787 k j not_false))).symm
            subst hsσ787
            rcases hpr788 with ⟨rfl, hpr788⟩ | ⟨rfl, hpr788⟩
            · skip
              refine dk_if_ne (tgt := 130) (pc' := 128) hE dX11_unit_125 (by decide) rfl (fun hc790 => ?_) (fun hc790 => absurd hc790 (by decide))
              exact lp130 m 0 v742 σ784 (fun k_ j_ h_ => by rw [hfσ784 k_ j_ (by omega)]) (by omega) (by omega)
            · skip
              refine dk_if_ne (tgt := 130) (pc' := 128) hE dX11_unit_125 (by decide) rfl (fun hc791 => absurd hc791 (by decide)) (fun hc791 => ?_)
              refine dk_iconst (pc' := 129) hE dX11_unit_128 (by decide) rfl ?_
              have hz792 : σ784 141 42 = n := by rw [hfσ784 141 42 (by omega), hn]
              have hz793 : σ784 141 43 = v782 := by rw [hfσ784 141 43 (by omega), hv782]
              have hz794 : σ784 141 44 = σ 141 44 := by rw [hfσ784 141 44 (by omega)]
              have hz795 : σ784 141 45 = p := by rw [hfσ784 141 45 (by omega), hp0]
              have hz796 : σ784 141 6 = σ 141 6 := by rw [hfσ784 141 6 (by omega)]
              have hz797 : σ784 166 p = σ 166 p := by rw [hfσ784 166 p (by omega)]
              have hz798 : σ784 167 p = σ 167 p := by rw [hfσ784 167 p (by omega)]
              have hz799 : σ784 164 (600 * r + n) = σ 164 (600 * r + n) := by rw [hfσ784 164 (600 * r + n) (by omega)]
              exact dk_zret (st := []) hE hR dX11_unit_129 (by omega) ⟨_, rfl, (fun k_ j_ h_ => by rw [hfσ784 k_ j_ (fun w_ => h_ (w_.elim (fun x0_ => Or.inl (x0_)) (fun y0_ => Or.inr (Or.inl (y0_)))))]), ⟨PX_go hP gi786 (fun k_ j_ h_ => by rw [hfσ784 k_ j_ (by omega)]), Or.inl (by omega)⟩⟩
          · skip
            refine dk_iload_n (pc' := 101) hE dX11_unit_100 rfl rfl rfl ?_
            refine dk_if_ne (tgt := 108) (pc' := 104) hE dX11_unit_101 (by decide) rfl (fun hc800 => ?_) (fun hc800 => ?_)
            · skip
              refine dk_aload_n (pc' := 109) hE dX11_unit_108 rfl rfl rfl ?_
              refine gf_11_44 (pc' := 112) hE fl_X11_392 dX11_unit_109 is_141 rfl (fun v801 hv801 htv801 hbv801 => ?_)
              refine dk_bipush (pc' := 114) hE dX11_unit_112 (by decide) rfl ?_
              refine dk_icmp_ne (tgt := 121) (pc' := 117) hE dX11_unit_114 (by decide) rfl (fun hc802 => ?_) (fun hc802 => ?_)
              · skip
                refine dk_aload_n (pc' := 122) hE dX11_unit_121 rfl rfl rfl ?_
                refine dk_cV (pc' := 125) (as := []) hE lk_X11_250 (ct_X11_isGood l G hGd) dX11_unit_122 rfl is_141 rfl (by decide) (Nat.le_of_ble_eq_true rfl) rfl rfl (fun r804 σ803 hr804 hor804 => ?_)
                obtain ⟨v805, rfl, hfσ803, hpr804⟩ := hr804
                have hsσ803 : σ = σ803 := (funext (fun k => funext (fun j => hfσ803 k j not_false))).symm
                subst hsσ803
                rcases hpr804 with ⟨rfl, hpr804⟩ | ⟨rfl, hpr804⟩
                · skip
                  refine dk_if_ne (tgt := 130) (pc' := 128) hE dX11_unit_125 (by decide) rfl (fun hc806 => ?_) (fun hc806 => absurd hc806 (by decide))
                  have hz807 : σ 141 43 = v782 := by rw [hv782]
                  have hz808 : σ 141 44 = v801 := by rw [hv801]
                  have hz809 : σ 141 44 = v801 := by rw [hv801]
                  exact lp130 m 0 v742 σ (fun k_ j_ h_ => rfl) (by omega) (by omega)
                · skip
                  refine dk_if_ne (tgt := 130) (pc' := 128) hE dX11_unit_125 (by decide) rfl (fun hc810 => absurd hc810 (by decide)) (fun hc810 => ?_)
                  refine dk_iconst (pc' := 129) hE dX11_unit_128 (by decide) rfl ?_
                  have hz811 : σ 141 42 = n := by rw [hn]
                  have hz812 : σ 141 43 = v782 := by rw [hv782]
                  have hz813 : σ 141 44 = v801 := by rw [hv801]
                  have hz814 : σ 141 45 = p := by rw [hp0]
                  exact dk_zret (st := []) hE hR dX11_unit_129 (by omega) ⟨_, rfl, (fun k_ j_ h_ => rfl), ⟨PX_go hP (NX_rf hT) (fun k_ j_ h_ => rfl), Or.inl (by omega)⟩⟩
              · skip
                refine dk_aload_n (pc' := 118) hE dX11_unit_117 rfl rfl rfl ?_
                refine dk_cV (pc' := 121) (as := []) hE lk_X11_257 (ct_X11_wrong l G hGd) dX11_unit_118 rfl is_141 rfl (by decide) (Nat.le_of_ble_eq_true rfl) rfl rfl (fun r816 σ815 hr816 hor816 => ?_)
                obtain ⟨rfl, hfσ815, hpr816⟩ := hr816
                have gi817 : NX σ σ815 := NX_f (NX_rf hT) hfσ815 hpr816
                refine dk_aload_n (pc' := 122) hE dX11_unit_121 rfl rfl rfl ?_
                refine dk_cV (pc' := 125) (as := []) hE lk_X11_250 (ct_X11_isGood l G hGd) dX11_unit_122 rfl is_141 rfl (by decide) (Nat.le_of_ble_eq_true rfl) rfl rfl (fun r819 σ818 hr819 hor819 => ?_)
                obtain ⟨v820, rfl, hfσ818, hpr819⟩ := hr819
                have hsσ818 : σ815 = σ818 := (funext (fun k => funext (fun j => hfσ818 k j not_false))).symm
                subst hsσ818
                rcases hpr819 with ⟨rfl, hpr819⟩ | ⟨rfl, hpr819⟩
                · skip
                  refine dk_if_ne (tgt := 130) (pc' := 128) hE dX11_unit_125 (by decide) rfl (fun hc821 => ?_) (fun hc821 => absurd hc821 (by decide))
                  exact lp130 m 0 v742 σ815 (fun k_ j_ h_ => by rw [hfσ815 k_ j_ (by omega)]) (by omega) (by omega)
                · skip
                  refine dk_if_ne (tgt := 130) (pc' := 128) hE dX11_unit_125 (by decide) rfl (fun hc822 => absurd hc822 (by decide)) (fun hc822 => ?_)
                  refine dk_iconst (pc' := 129) hE dX11_unit_128 (by decide) rfl ?_
                  have hz823 : σ815 141 42 = n := by rw [hfσ815 141 42 (by omega), hn]
                  have hz824 : σ815 141 43 = v782 := by rw [hfσ815 141 43 (by omega), hv782]
                  have hz825 : σ815 141 44 = v801 := by rw [hfσ815 141 44 (by omega), hv801]
                  have hz826 : σ815 141 45 = p := by rw [hfσ815 141 45 (by omega), hp0]
                  have hz827 : σ815 141 6 = σ 141 6 := by rw [hfσ815 141 6 (by omega)]
                  have hz828 : σ815 166 p = σ 166 p := by rw [hfσ815 166 p (by omega)]
                  have hz829 : σ815 167 p = σ 167 p := by rw [hfσ815 167 p (by omega)]
                  have hz830 : σ815 164 (600 * r + n) = σ 164 (600 * r + n) := by rw [hfσ815 164 (600 * r + n) (by omega)]
                  exact dk_zret (st := []) hE hR dX11_unit_129 (by omega) ⟨_, rfl, (fun k_ j_ h_ => by rw [hfσ815 k_ j_ (fun w_ => h_ (w_.elim (fun x0_ => Or.inl (x0_)) (fun y0_ => Or.inr (Or.inl (y0_)))))]), ⟨PX_go hP gi817 (fun k_ j_ h_ => by rw [hfσ815 k_ j_ (by omega)]), Or.inl (by omega)⟩⟩
            · skip
              refine dk_iload_n (pc' := 105) hE dX11_unit_104 rfl rfl rfl ?_
              refine dk_if_eq (tgt := 121) (pc' := 108) hE dX11_unit_105 (by decide) rfl (fun hc831 => ?_) (fun hc831 => absurd hc831 (by decide))
              refine dk_aload_n (pc' := 122) hE dX11_unit_121 rfl rfl rfl ?_
              refine dk_cV (pc' := 125) (as := []) hE lk_X11_250 (ct_X11_isGood l G hGd) dX11_unit_122 rfl is_141 rfl (by decide) (Nat.le_of_ble_eq_true rfl) rfl rfl (fun r833 σ832 hr833 hor833 => ?_)
              obtain ⟨v834, rfl, hfσ832, hpr833⟩ := hr833
              have hsσ832 : σ = σ832 := (funext (fun k => funext (fun j => hfσ832 k j not_false))).symm
              subst hsσ832
              rcases hpr833 with ⟨rfl, hpr833⟩ | ⟨rfl, hpr833⟩
              · skip
                refine dk_if_ne (tgt := 130) (pc' := 128) hE dX11_unit_125 (by decide) rfl (fun hc835 => ?_) (fun hc835 => absurd hc835 (by decide))
                have hz836 : σ 141 43 = v782 := by rw [hv782]
                exact lp130 m 0 v742 σ (fun k_ j_ h_ => rfl) (by omega) (by omega)
              · skip
                refine dk_if_ne (tgt := 130) (pc' := 128) hE dX11_unit_125 (by decide) rfl (fun hc837 => absurd hc837 (by decide)) (fun hc837 => ?_)
                refine dk_iconst (pc' := 129) hE dX11_unit_128 (by decide) rfl ?_
                have hz838 : σ 141 42 = n := by rw [hn]
                have hz839 : σ 141 43 = v782 := by rw [hv782]
                have hz840 : σ 141 45 = p := by rw [hp0]
                exact dk_zret (st := []) hE hR dX11_unit_129 (by omega) ⟨_, rfl, (fun k_ j_ h_ => rfl), ⟨PX_go hP (NX_rf hT) (fun k_ j_ h_ => rfl), Or.inl (by omega)⟩⟩
        · skip
          refine dk_aload_n (pc' := 80) hE dX11_unit_79 rfl rfl rfl ?_
          refine gf_11_8 (pc' := 83) hE fl_X11_222 dX11_unit_80 is_141 rfl (fun v841 hv841 htv841 hbv841 => ?_)
          refine dk_iconst (pc' := 84) hE dX11_unit_83 (by decide) rfl ?_
          refine dk_icmp_eq (tgt := 91) (pc' := 87) hE dX11_unit_84 (by decide) rfl (fun hc842 => ?_) (fun hc842 => ?_)
          · skip
            refine dk_aload_n (pc' := 92) hE dX11_unit_91 rfl rfl rfl ?_
            refine gf_11_43 (pc' := 95) hE fl_X11_380 dX11_unit_92 is_141 rfl (fun v843 hv843 htv843 hbv843 => ?_)
            refine dk_bipush (pc' := 97) hE dX11_unit_95 (by decide) rfl ?_
            refine dk_icmp_eq (tgt := 117) (pc' := 100) hE dX11_unit_97 (by decide) rfl (fun hc844 => ?_) (fun hc844 => ?_)
            · skip
              refine dk_aload_n (pc' := 118) hE dX11_unit_117 rfl rfl rfl ?_
              refine dk_cV (pc' := 121) (as := []) hE lk_X11_257 (ct_X11_wrong l G hGd) dX11_unit_118 rfl is_141 rfl (by decide) (Nat.le_of_ble_eq_true rfl) rfl rfl (fun r846 σ845 hr846 hor846 => ?_)
              obtain ⟨rfl, hfσ845, hpr846⟩ := hr846
              have gi847 : NX σ σ845 := NX_f (NX_rf hT) hfσ845 hpr846
              refine dk_aload_n (pc' := 122) hE dX11_unit_121 rfl rfl rfl ?_
              refine dk_cV (pc' := 125) (as := []) hE lk_X11_250 (ct_X11_isGood l G hGd) dX11_unit_122 rfl is_141 rfl (by decide) (Nat.le_of_ble_eq_true rfl) rfl rfl (fun r849 σ848 hr849 hor849 => ?_)
              obtain ⟨v850, rfl, hfσ848, hpr849⟩ := hr849
              have hsσ848 : σ845 = σ848 := (funext (fun k => funext (fun j => hfσ848 k j not_false))).symm
              subst hsσ848
              rcases hpr849 with ⟨rfl, hpr849⟩ | ⟨rfl, hpr849⟩
              · skip
                refine dk_if_ne (tgt := 130) (pc' := 128) hE dX11_unit_125 (by decide) rfl (fun hc851 => ?_) (fun hc851 => absurd hc851 (by decide))
                exact lp130 m 0 v742 σ845 (fun k_ j_ h_ => by rw [hfσ845 k_ j_ (by omega)]) (by omega) (by omega)
              · skip
                refine dk_if_ne (tgt := 130) (pc' := 128) hE dX11_unit_125 (by decide) rfl (fun hc852 => absurd hc852 (by decide)) (fun hc852 => ?_)
                refine dk_iconst (pc' := 129) hE dX11_unit_128 (by decide) rfl ?_
                have hz853 : σ845 141 42 = n := by rw [hfσ845 141 42 (by omega), hn]
                have hz854 : σ845 141 43 = v843 := by rw [hfσ845 141 43 (by omega), hv843]
                have hz855 : σ845 141 44 = σ 141 44 := by rw [hfσ845 141 44 (by omega)]
                have hz856 : σ845 141 45 = p := by rw [hfσ845 141 45 (by omega), hp0]
                have hz857 : σ845 141 6 = σ 141 6 := by rw [hfσ845 141 6 (by omega)]
                have hz858 : σ845 166 p = σ 166 p := by rw [hfσ845 166 p (by omega)]
                have hz859 : σ845 167 p = σ 167 p := by rw [hfσ845 167 p (by omega)]
                have hz860 : σ845 164 (600 * r + n) = σ 164 (600 * r + n) := by rw [hfσ845 164 (600 * r + n) (by omega)]
                exact dk_zret (st := []) hE hR dX11_unit_129 (by omega) ⟨_, rfl, (fun k_ j_ h_ => by rw [hfσ845 k_ j_ (fun w_ => h_ (w_.elim (fun x0_ => Or.inl (x0_)) (fun y0_ => Or.inr (Or.inl (y0_)))))]), ⟨PX_go hP gi847 (fun k_ j_ h_ => by rw [hfσ845 k_ j_ (by omega)]), Or.inl (by omega)⟩⟩
            · skip
              refine dk_iload_n (pc' := 101) hE dX11_unit_100 rfl rfl rfl ?_
              refine dk_if_ne (tgt := 108) (pc' := 104) hE dX11_unit_101 (by decide) rfl (fun hc861 => ?_) (fun hc861 => ?_)
              · skip
                refine dk_aload_n (pc' := 109) hE dX11_unit_108 rfl rfl rfl ?_
                refine gf_11_44 (pc' := 112) hE fl_X11_392 dX11_unit_109 is_141 rfl (fun v862 hv862 htv862 hbv862 => ?_)
                refine dk_bipush (pc' := 114) hE dX11_unit_112 (by decide) rfl ?_
                refine dk_icmp_ne (tgt := 121) (pc' := 117) hE dX11_unit_114 (by decide) rfl (fun hc863 => ?_) (fun hc863 => ?_)
                · skip
                  refine dk_aload_n (pc' := 122) hE dX11_unit_121 rfl rfl rfl ?_
                  refine dk_cV (pc' := 125) (as := []) hE lk_X11_250 (ct_X11_isGood l G hGd) dX11_unit_122 rfl is_141 rfl (by decide) (Nat.le_of_ble_eq_true rfl) rfl rfl (fun r865 σ864 hr865 hor865 => ?_)
                  obtain ⟨v866, rfl, hfσ864, hpr865⟩ := hr865
                  have hsσ864 : σ = σ864 := (funext (fun k => funext (fun j => hfσ864 k j not_false))).symm
                  subst hsσ864
                  rcases hpr865 with ⟨rfl, hpr865⟩ | ⟨rfl, hpr865⟩
                  · skip
                    refine dk_if_ne (tgt := 130) (pc' := 128) hE dX11_unit_125 (by decide) rfl (fun hc867 => ?_) (fun hc867 => absurd hc867 (by decide))
                    have hz868 : σ 141 8 = v841 := by rw [hv841]
                    have hz869 : σ 141 43 = v843 := by rw [hv843]
                    have hz870 : σ 141 44 = v862 := by rw [hv862]
                    have hz871 : σ 141 44 = v862 := by rw [hv862]
                    exact lp130 m 0 v742 σ (fun k_ j_ h_ => rfl) (by omega) (by omega)
                  · skip
                    refine dk_if_ne (tgt := 130) (pc' := 128) hE dX11_unit_125 (by decide) rfl (fun hc872 => absurd hc872 (by decide)) (fun hc872 => ?_)
                    refine dk_iconst (pc' := 129) hE dX11_unit_128 (by decide) rfl ?_
                    have hz873 : σ 141 42 = n := by rw [hn]
                    have hz874 : σ 141 43 = v843 := by rw [hv843]
                    have hz875 : σ 141 44 = v862 := by rw [hv862]
                    have hz876 : σ 141 45 = p := by rw [hp0]
                    exact dk_zret (st := []) hE hR dX11_unit_129 (by omega) ⟨_, rfl, (fun k_ j_ h_ => rfl), ⟨PX_go hP (NX_rf hT) (fun k_ j_ h_ => rfl), Or.inl (by omega)⟩⟩
                · skip
                  refine dk_aload_n (pc' := 118) hE dX11_unit_117 rfl rfl rfl ?_
                  refine dk_cV (pc' := 121) (as := []) hE lk_X11_257 (ct_X11_wrong l G hGd) dX11_unit_118 rfl is_141 rfl (by decide) (Nat.le_of_ble_eq_true rfl) rfl rfl (fun r878 σ877 hr878 hor878 => ?_)
                  obtain ⟨rfl, hfσ877, hpr878⟩ := hr878
                  have gi879 : NX σ σ877 := NX_f (NX_rf hT) hfσ877 hpr878
                  refine dk_aload_n (pc' := 122) hE dX11_unit_121 rfl rfl rfl ?_
                  refine dk_cV (pc' := 125) (as := []) hE lk_X11_250 (ct_X11_isGood l G hGd) dX11_unit_122 rfl is_141 rfl (by decide) (Nat.le_of_ble_eq_true rfl) rfl rfl (fun r881 σ880 hr881 hor881 => ?_)
                  obtain ⟨v882, rfl, hfσ880, hpr881⟩ := hr881
                  have hsσ880 : σ877 = σ880 := (funext (fun k => funext (fun j => hfσ880 k j not_false))).symm
                  subst hsσ880
                  rcases hpr881 with ⟨rfl, hpr881⟩ | ⟨rfl, hpr881⟩
                  · skip
                    refine dk_if_ne (tgt := 130) (pc' := 128) hE dX11_unit_125 (by decide) rfl (fun hc883 => ?_) (fun hc883 => absurd hc883 (by decide))
                    exact lp130 m 0 v742 σ877 (fun k_ j_ h_ => by rw [hfσ877 k_ j_ (by omega)]) (by omega) (by omega)
                  · skip
                    refine dk_if_ne (tgt := 130) (pc' := 128) hE dX11_unit_125 (by decide) rfl (fun hc884 => absurd hc884 (by decide)) (fun hc884 => ?_)
                    refine dk_iconst (pc' := 129) hE dX11_unit_128 (by decide) rfl ?_
                    have hz885 : σ877 141 42 = n := by rw [hfσ877 141 42 (by omega), hn]
                    have hz886 : σ877 141 43 = v843 := by rw [hfσ877 141 43 (by omega), hv843]
                    have hz887 : σ877 141 44 = v862 := by rw [hfσ877 141 44 (by omega), hv862]
                    have hz888 : σ877 141 45 = p := by rw [hfσ877 141 45 (by omega), hp0]
                    have hz889 : σ877 141 6 = σ 141 6 := by rw [hfσ877 141 6 (by omega)]
                    have hz890 : σ877 166 p = σ 166 p := by rw [hfσ877 166 p (by omega)]
                    have hz891 : σ877 167 p = σ 167 p := by rw [hfσ877 167 p (by omega)]
                    have hz892 : σ877 164 (600 * r + n) = σ 164 (600 * r + n) := by rw [hfσ877 164 (600 * r + n) (by omega)]
                    exact dk_zret (st := []) hE hR dX11_unit_129 (by omega) ⟨_, rfl, (fun k_ j_ h_ => by rw [hfσ877 k_ j_ (fun w_ => h_ (w_.elim (fun x0_ => Or.inl (x0_)) (fun y0_ => Or.inr (Or.inl (y0_)))))]), ⟨PX_go hP gi879 (fun k_ j_ h_ => by rw [hfσ877 k_ j_ (by omega)]), Or.inl (by omega)⟩⟩
              · skip
                refine dk_iload_n (pc' := 105) hE dX11_unit_104 rfl rfl rfl ?_
                refine dk_if_eq (tgt := 121) (pc' := 108) hE dX11_unit_105 (by decide) rfl (fun hc893 => ?_) (fun hc893 => absurd hc893 (by decide))
                refine dk_aload_n (pc' := 122) hE dX11_unit_121 rfl rfl rfl ?_
                refine dk_cV (pc' := 125) (as := []) hE lk_X11_250 (ct_X11_isGood l G hGd) dX11_unit_122 rfl is_141 rfl (by decide) (Nat.le_of_ble_eq_true rfl) rfl rfl (fun r895 σ894 hr895 hor895 => ?_)
                obtain ⟨v896, rfl, hfσ894, hpr895⟩ := hr895
                have hsσ894 : σ = σ894 := (funext (fun k => funext (fun j => hfσ894 k j not_false))).symm
                subst hsσ894
                rcases hpr895 with ⟨rfl, hpr895⟩ | ⟨rfl, hpr895⟩
                · skip
                  refine dk_if_ne (tgt := 130) (pc' := 128) hE dX11_unit_125 (by decide) rfl (fun hc897 => ?_) (fun hc897 => absurd hc897 (by decide))
                  have hz898 : σ 141 8 = v841 := by rw [hv841]
                  have hz899 : σ 141 43 = v843 := by rw [hv843]
                  exact lp130 m 0 v742 σ (fun k_ j_ h_ => rfl) (by omega) (by omega)
                · skip
                  refine dk_if_ne (tgt := 130) (pc' := 128) hE dX11_unit_125 (by decide) rfl (fun hc900 => absurd hc900 (by decide)) (fun hc900 => ?_)
                  refine dk_iconst (pc' := 129) hE dX11_unit_128 (by decide) rfl ?_
                  have hz901 : σ 141 42 = n := by rw [hn]
                  have hz902 : σ 141 43 = v843 := by rw [hv843]
                  have hz903 : σ 141 45 = p := by rw [hp0]
                  exact dk_zret (st := []) hE hR dX11_unit_129 (by omega) ⟨_, rfl, (fun k_ j_ h_ => rfl), ⟨PX_go hP (NX_rf hT) (fun k_ j_ h_ => rfl), Or.inl (by omega)⟩⟩
          · skip
            refine dk_iload_n (pc' := 88) hE dX11_unit_87 rfl rfl rfl ?_
            refine dk_if_eq (tgt := 117) (pc' := 91) hE dX11_unit_88 (by decide) rfl (fun hc904 => ?_) (fun hc904 => absurd hc904 (by decide))
            refine dk_aload_n (pc' := 118) hE dX11_unit_117 rfl rfl rfl ?_
            refine dk_cV (pc' := 121) (as := []) hE lk_X11_257 (ct_X11_wrong l G hGd) dX11_unit_118 rfl is_141 rfl (by decide) (Nat.le_of_ble_eq_true rfl) rfl rfl (fun r906 σ905 hr906 hor906 => ?_)
            obtain ⟨rfl, hfσ905, hpr906⟩ := hr906
            have gi907 : NX σ σ905 := NX_f (NX_rf hT) hfσ905 hpr906
            refine dk_aload_n (pc' := 122) hE dX11_unit_121 rfl rfl rfl ?_
            refine dk_cV (pc' := 125) (as := []) hE lk_X11_250 (ct_X11_isGood l G hGd) dX11_unit_122 rfl is_141 rfl (by decide) (Nat.le_of_ble_eq_true rfl) rfl rfl (fun r909 σ908 hr909 hor909 => ?_)
            obtain ⟨v910, rfl, hfσ908, hpr909⟩ := hr909
            have hsσ908 : σ905 = σ908 := (funext (fun k => funext (fun j => hfσ908 k j not_false))).symm
            subst hsσ908
            rcases hpr909 with ⟨rfl, hpr909⟩ | ⟨rfl, hpr909⟩
            · skip
              refine dk_if_ne (tgt := 130) (pc' := 128) hE dX11_unit_125 (by decide) rfl (fun hc911 => ?_) (fun hc911 => absurd hc911 (by decide))
              exact lp130 m 0 v742 σ905 (fun k_ j_ h_ => by rw [hfσ905 k_ j_ (by omega)]) (by omega) (by omega)
            · skip
              refine dk_if_ne (tgt := 130) (pc' := 128) hE dX11_unit_125 (by decide) rfl (fun hc912 => absurd hc912 (by decide)) (fun hc912 => ?_)
              refine dk_iconst (pc' := 129) hE dX11_unit_128 (by decide) rfl ?_
              have hz913 : σ905 141 42 = n := by rw [hfσ905 141 42 (by omega), hn]
              have hz914 : σ905 141 43 = σ 141 43 := by rw [hfσ905 141 43 (by omega)]
              have hz915 : σ905 141 44 = σ 141 44 := by rw [hfσ905 141 44 (by omega)]
              have hz916 : σ905 141 45 = p := by rw [hfσ905 141 45 (by omega), hp0]
              have hz917 : σ905 141 6 = σ 141 6 := by rw [hfσ905 141 6 (by omega)]
              have hz918 : σ905 166 p = σ 166 p := by rw [hfσ905 166 p (by omega)]
              have hz919 : σ905 167 p = σ 167 p := by rw [hfσ905 167 p (by omega)]
              have hz920 : σ905 164 (600 * r + n) = σ 164 (600 * r + n) := by rw [hfσ905 164 (600 * r + n) (by omega)]
              exact dk_zret (st := []) hE hR dX11_unit_129 (by omega) ⟨_, rfl, (fun k_ j_ h_ => by rw [hfσ905 k_ j_ (fun w_ => h_ (w_.elim (fun x0_ => Or.inl (x0_)) (fun y0_ => Or.inr (Or.inl (y0_)))))]), ⟨PX_go hP gi907 (fun k_ j_ h_ => by rw [hfσ905 k_ j_ (by omega)]), Or.inl (by omega)⟩⟩
  have lp37 : ∀ (b : Int) (σ37c : dkS), ((∀ k_ j_ : Int, ¬ (False) → σ37c k_ j_ = σ k_ j_)) → (0 ≤ b ∧ b ≤ 1) → dk_PJ E 37 [(4, 141), (0, b), (9, 0), (9, 0), (9, 0), (9, 0)] [] 190 σ37c := by
    intro b σ37c hF37 hb
    have hS37 : σ = σ37c := (funext (fun k => funext (fun j => hF37 k j not_false))).symm
    subst hS37
    refine dk_iload_n (pc' := 38) hE dX11_unit_37 rfl rfl rfl ?_
    refine dk_if_eq (tgt := 55) (pc' := 41) hE dX11_unit_38 (by decide) rfl (fun hc921 => ?_) (fun hc921 => ?_)
    · skip
      refine dk_iconst (pc' := 56) hE dX11_unit_55 (by decide) rfl ?_
      refine dk_istore_n (pc' := 57) (ls' := [(4, 141), (0, b), (0, 0), (9, 0), (9, 0), (9, 0)]) hE dX11_unit_56 rfl rfl (by decide) rfl ?_
      refine dk_drop (ls' := [(4, 141), (9, 0), (0, 0), (9, 0), (9, 0), (9, 0)]) [true, false, true, false, false, false] rfl ?_
      exact lp57 0 σ (fun k_ j_ h_ => rfl) (by omega)
    · skip
      refine dk_aload_n (pc' := 42) hE dX11_unit_41 rfl rfl rfl ?_
      refine dk_ldc2 (pc' := 45) hE dX11_unit_42 cs_X11_194 (by decide) rfl ?_
      refine dk_cV (pc' := 48) (as := [(3, 7237492)]) hE lk_X11_281 (ct_X11_isWord l G hGd 7237492) dX11_unit_45 rfl is_141 rfl (by decide) (Nat.le_of_ble_eq_true rfl) rfl rfl (fun r923 σ922 hr923 hor923 => ?_)
      obtain ⟨v924, rfl, hfσ922, hpr923⟩ := hr923
      have hsσ922 : σ = σ922 := (funext (fun k => funext (fun j => hfσ922 k j not_false))).symm
      subst hsσ922
      rcases hpr923 with ⟨rfl, hpr923⟩ | rfl
      · skip
        refine dk_if_eq (tgt := 55) (pc' := 51) hE dX11_unit_48 (by decide) rfl (fun hc925 => absurd hc925 (by decide)) (fun hc925 => ?_)
        refine dk_iconst (pc' := 52) hE dX11_unit_51 (by decide) rfl ?_
        refine dk_goto (tgt := 56) hE dX11_unit_52 (by decide) ?_
        refine dk_istore_n (pc' := 57) (ls' := [(4, 141), (0, b), (0, 1), (9, 0), (9, 0), (9, 0)]) hE dX11_unit_56 rfl rfl (by decide) rfl ?_
        refine dk_drop (ls' := [(4, 141), (9, 0), (0, 1), (9, 0), (9, 0), (9, 0)]) [true, false, true, false, false, false] rfl ?_
        exact lp57 1 σ (fun k_ j_ h_ => rfl) (by omega)
      · skip
        refine dk_if_eq (tgt := 55) (pc' := 51) hE dX11_unit_48 (by decide) rfl (fun hc926 => ?_) (fun hc926 => absurd hc926 (by decide))
        refine dk_iconst (pc' := 56) hE dX11_unit_55 (by decide) rfl ?_
        refine dk_istore_n (pc' := 57) (ls' := [(4, 141), (0, b), (0, 0), (9, 0), (9, 0), (9, 0)]) hE dX11_unit_56 rfl rfl (by decide) rfl ?_
        refine dk_drop (ls' := [(4, 141), (9, 0), (0, 0), (9, 0), (9, 0), (9, 0)]) [true, false, true, false, false, false] rfl ?_
        exact lp57 0 σ (fun k_ j_ h_ => rfl) (by omega)
  refine dk_aload_n (pc' := 1) hE dX11_unit_0 rfl rfl rfl ?_
  refine gf_11_37 (pc' := 4) (w := 166) hE fl_X11_89 dX11_unit_1 is_141 rfl rfl ?_
  refine dk_aload_n (pc' := 5) hE dX11_unit_4 rfl rfl rfl ?_
  refine gf_11_45 (pc' := 8) hE fl_X11_389 dX11_unit_5 is_141 rfl (fun v927 hv927 htv927 hbv927 => ?_)
  have hq927 : p = v927 := (show v927 = p by rw [hv927, hp0]).symm
  subst hq927
  clear htv927 hbv927
  refine dk_iconst (pc' := 9) hE dX11_unit_8 (by decide) rfl ?_
  obtain ⟨v928, hv928⟩ : ∃ z : Int, z = p - 1 := ⟨_, rfl⟩
  refine dk_isub (pc' := 10) hE dX11_unit_9 hv928.symm (by omega) rfl ?_
  refine ga_94 (pc' := 11) hE dX11_unit_10 is_166 (by omega) rfl (fun v929 hv929 htv929 hbv929 => ?_)
  refine dk_iconst (pc' := 12) hE dX11_unit_11 (by decide) rfl ?_
  refine dk_icmp_le (tgt := 31) (pc' := 15) hE dX11_unit_12 (by decide) rfl (fun hc930 => ?_) (fun hc930 => ?_)
  · skip
    refine dk_iconst (pc' := 32) hE dX11_unit_31 (by decide) rfl ?_
    refine dk_goto (tgt := 36) hE dX11_unit_32 (by decide) ?_
    refine dk_istore_n (pc' := 37) (ls' := [(4, 141), (0, 1), (9, 0), (9, 0), (9, 0), (9, 0)]) hE dX11_unit_36 rfl rfl (by decide) rfl ?_
    exact lp37 1 σ (fun k_ j_ h_ => rfl) (by omega)
  · skip
    refine dk_aload_n (pc' := 16) hE dX11_unit_15 rfl rfl rfl ?_
    refine gf_11_37 (pc' := 19) (w := 166) hE fl_X11_89 dX11_unit_16 is_141 rfl rfl ?_
    refine dk_aload_n (pc' := 20) hE dX11_unit_19 rfl rfl rfl ?_
    refine gf_11_45 (pc' := 23) hE fl_X11_389 dX11_unit_20 is_141 rfl (fun v931 hv931 htv931 hbv931 => ?_)
    have hq931 : p = v931 := (show v931 = p by rw [hv931, hv927]).symm
    subst hq931
    clear htv931 hbv931
    refine dk_iconst (pc' := 24) hE dX11_unit_23 (by decide) rfl ?_
    obtain ⟨v932, hv932⟩ : ∃ z : Int, z = p - 1 := ⟨_, rfl⟩
    refine dk_isub (pc' := 25) hE dX11_unit_24 hv932.symm (by omega) rfl ?_
    refine ga_94 (pc' := 26) hE dX11_unit_25 is_166 (by omega) rfl (fun v933 hv933 htv933 hbv933 => ?_)
    refine dk_bipush (pc' := 28) hE dX11_unit_26 (by decide) rfl ?_
    refine dk_icmp_lt (tgt := 35) (pc' := 31) hE dX11_unit_28 (by decide) rfl (fun hc934 => ?_) (fun hc934 => ?_)
    · skip
      refine dk_iconst (pc' := 36) hE dX11_unit_35 (by decide) rfl ?_
      refine dk_istore_n (pc' := 37) (ls' := [(4, 141), (0, 0), (9, 0), (9, 0), (9, 0), (9, 0)]) hE dX11_unit_36 rfl rfl (by decide) rfl ?_
      exact lp37 0 σ (fun k_ j_ h_ => rfl) (by omega)
    · skip
      refine dk_iconst (pc' := 32) hE dX11_unit_31 (by decide) rfl ?_
      refine dk_goto (tgt := 36) hE dX11_unit_32 (by decide) ?_
      refine dk_istore_n (pc' := 37) (ls' := [(4, 141), (0, 1), (9, 0), (9, 0), (9, 0), (9, 0)]) hE dX11_unit_36 rfl rfl (by decide) rfl ?_
      exact lp37 1 σ (fun k_ j_ h_ => rfl) (by omega)
