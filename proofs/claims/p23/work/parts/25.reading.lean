set_option maxHeartbeats 4000000 in
set_option maxRecDepth 20000 in
theorem ct_X11_must (l : Launch) (G : dkG) (hGd : dk_Gd G) (b : Int) : dk_Ct l G dk_Ty yX11_must cX11_must 2 (none) 3 190 190 (fun av σ => av = [(4, 141), (0, b)] ∧ (TK σ) ∧ (σ 141 3 ≤ 1400)) (fun _ σ r_ σ' => r_ = none ∧ (∀ k_ j_ : Int, ¬ ((k_ = 141 ∧ j_ = 4) ∨ (k_ = 141 ∧ j_ = 5) ∨ (k_ = 141 ∧ j_ = 6) ∨ (k_ = 141 ∧ j_ = 7) ∨ (k_ = 141 ∧ j_ = 8) ∨ (k_ = 141 ∧ j_ = 9) ∨ (k_ = 141 ∧ j_ = 10)) → σ' k_ j_ = σ k_ j_) ∧ (NX σ σ')) := by
  refine dk_enter hGd (by decide) (fun av σ hpre hok => ?_)
  obtain ⟨rfl, hT, hS⟩ := hpre
  refine ⟨Nat.le_of_ble_eq_true rfl, fun E hE hR _ => ?_⟩
  have hi_b : dk_i32 b := dk_oki (hok _ (by simp))
  show dk_PJ E 0 [(4, 141), (0, b)] [] 190 σ
  refine dk_aload_n (pc' := 1) hE dX11_must_0 rfl rfl rfl ?_
  refine dk_cV (pc' := 4) (as := []) hE lk_X11_250 (ct_X11_isGood l G hGd) dX11_must_1 rfl is_141 rfl (by decide) (Nat.le_of_ble_eq_true rfl) rfl rfl (fun r2 σ1 hr2 hor2 => ?_)
  obtain ⟨v3, rfl, hfσ1, hpr2⟩ := hr2
  have hsσ1 : σ = σ1 := (funext (fun k => funext (fun j => hfσ1 k j not_false))).symm
  subst hsσ1
  rcases hpr2 with ⟨rfl, hpr2⟩ | ⟨rfl, hpr2⟩
  · skip
    refine dk_if_ne (tgt := 8) (pc' := 7) hE dX11_must_4 (by decide) rfl (fun hc4 => ?_) (fun hc4 => absurd hc4 (by decide))
    refine dk_iload_n (pc' := 9) hE dX11_must_8 rfl rfl rfl ?_
    refine dk_if_eq (tgt := 19) (pc' := 12) hE dX11_must_9 (by decide) rfl (fun hc5 => ?_) (fun hc5 => ?_)
    · skip
      refine dk_aload_n (pc' := 20) hE dX11_must_19 rfl rfl rfl ?_
      refine dk_cV (pc' := 23) (as := []) hE lk_X11_257 (ct_X11_wrong l G hGd) dX11_must_20 rfl is_141 rfl (by decide) (Nat.le_of_ble_eq_true rfl) rfl rfl (fun r7 σ6 hr7 hor7 => ?_)
      obtain ⟨rfl, hfσ6, hpr7⟩ := hr7
      have gi8 : NX σ σ6 := NX_f (NX_rf hT) hfσ6 hpr7
      exact dk_vret (st := []) hE hR dX11_must_23 ⟨rfl, (fun k_ j_ h_ => by rw [hfσ6 k_ j_ (fun w_ => h_ (w_.elim (fun x0_ => Or.inl (x0_)) (fun y0_ => Or.inr (Or.inl (y0_)))))]), gi8⟩
    · skip
      refine dk_aload_n (pc' := 13) hE dX11_must_12 rfl rfl rfl ?_
      refine dk_cV (pc' := 16) (as := []) hE lk_X11_254 (ct_X11_next l G hGd) dX11_must_13 rfl is_141 rfl (by decide) (Nat.le_of_ble_eq_true rfl) ⟨rfl, ((NX_tk (NX_rf hT)).2.1), (by omega)⟩ rfl (fun r10 σ9 hr10 hor10 => ?_)
      obtain ⟨rfl, hfσ9, hpr10⟩ := hr10
      have gi11 : NX σ σ9 := NX_y (NX_rf hT) hpr10
      refine dk_goto (tgt := 23) hE dX11_must_16 (by decide) ?_
      exact dk_vret (st := []) hE hR dX11_must_23 ⟨rfl, (fun k_ j_ h_ => by rw [hfσ9 k_ j_ (fun w_ => h_ (w_.elim (fun x0_ => Or.inr (Or.inr (Or.inl (x0_)))) (fun y0_ => y0_.elim (fun x1_ => Or.inr (Or.inr (Or.inr (Or.inl (x1_))))) (fun y1_ => y1_.elim (fun x2_ => Or.inr (Or.inr (Or.inr (Or.inr (Or.inl (x2_)))))) (fun y2_ => y2_.elim (fun x3_ => Or.inr (Or.inr (Or.inr (Or.inr (Or.inr (Or.inl (x3_))))))) (fun y3_ => Or.inr (Or.inr (Or.inr (Or.inr (Or.inr (Or.inr (y3_))))))))))))]), gi11⟩
  · skip
    refine dk_if_ne (tgt := 8) (pc' := 7) hE dX11_must_4 (by decide) rfl (fun hc12 => absurd hc12 (by decide)) (fun hc12 => ?_)
    exact dk_vret (st := []) hE hR dX11_must_7 ⟨rfl, (fun k_ j_ h_ => rfl), (NX_rf hT)⟩
set_option maxHeartbeats 4000000 in
set_option maxRecDepth 20000 in
theorem ct_X11_numeral (l : Launch) (G : dkG) (hGd : dk_Gd G) (a b : Int) : dk_Ct l G dk_Ty yX11_numeral cX11_numeral 4 (some .int) 3 190 190 (fun av σ => av = [(4, 141), (0, a), (0, b)] ∧ (TK σ) ∧ (σ 141 3 ≤ 1400) ∧ (a ≤ b)) (fun _ σ r_ σ' => ∃ z : Int, r_ = some (0, z) ∧ (∀ k_ j_ : Int, ¬ ((k_ = 141 ∧ j_ = 4) ∨ (k_ = 141 ∧ j_ = 5) ∨ (k_ = 141 ∧ j_ = 6) ∨ (k_ = 141 ∧ j_ = 7) ∨ (k_ = 141 ∧ j_ = 8) ∨ (k_ = 141 ∧ j_ = 9) ∨ (k_ = 141 ∧ j_ = 10)) → σ' k_ j_ = σ k_ j_) ∧ ((a ≤ z ∧ z ≤ b) ∧ NX σ σ')) := by
  refine dk_enter hGd (by decide) (fun av σ hpre hok => ?_)
  obtain ⟨rfl, hT, hS, hab⟩ := hpre
  refine ⟨Nat.le_of_ble_eq_true rfl, fun E hE hR _ => ?_⟩
  have hi_a : dk_i32 a := dk_oki (hok _ (by simp))
  have hi_b : dk_i32 b := dk_oki (hok _ (by simp))
  show dk_PJ E 0 [(4, 141), (0, a), (0, b), (9, 0)] [] 190 σ
  refine dk_aload_n (pc' := 1) hE dX11_numeral_0 rfl rfl rfl ?_
  refine dk_cV (pc' := 4) (as := []) hE lk_X11_250 (ct_X11_isGood l G hGd) dX11_numeral_1 rfl is_141 rfl (by decide) (Nat.le_of_ble_eq_true rfl) rfl rfl (fun r2 σ1 hr2 hor2 => ?_)
  obtain ⟨v3, rfl, hfσ1, hpr2⟩ := hr2
  have hsσ1 : σ = σ1 := (funext (fun k => funext (fun j => hfσ1 k j not_false))).symm
  subst hsσ1
  rcases hpr2 with ⟨rfl, hpr2⟩ | ⟨rfl, hpr2⟩
  · skip
    refine dk_if_ne (tgt := 9) (pc' := 7) hE dX11_numeral_4 (by decide) rfl (fun hc4 => ?_) (fun hc4 => absurd hc4 (by decide))
    refine dk_aload_n (pc' := 10) hE dX11_numeral_9 rfl rfl rfl ?_
    refine gf_11_8 (pc' := 13) hE fl_X11_222 dX11_numeral_10 is_141 rfl (fun v5 hv5 htv5 hbv5 => ?_)
    refine dk_iconst (pc' := 14) hE dX11_numeral_13 (by decide) rfl ?_
    refine dk_icmp_eq (tgt := 21) (pc' := 17) hE dX11_numeral_14 (by decide) rfl (fun hc6 => ?_) (fun hc6 => ?_)
    · skip
      refine dk_aload_n (pc' := 22) hE dX11_numeral_21 rfl rfl rfl ?_
      refine dk_cV (pc' := 25) (as := []) hE lk_X11_250 (ct_X11_isGood l G hGd) dX11_numeral_22 rfl is_141 rfl (by decide) (Nat.le_of_ble_eq_true rfl) rfl rfl (fun r8 σ7 hr8 hor8 => ?_)
      obtain ⟨v9, rfl, hfσ7, hpr8⟩ := hr8
      have hsσ7 : σ = σ7 := (funext (fun k => funext (fun j => hfσ7 k j not_false))).symm
      subst hsσ7
      rcases hpr8 with ⟨rfl, hpr8⟩ | ⟨rfl, hpr8⟩
      · skip
        refine dk_if_eq (tgt := 53) (pc' := 28) hE dX11_numeral_25 (by decide) rfl (fun hc10 => absurd hc10 (by decide)) (fun hc10 => ?_)
        refine dk_aload_n (pc' := 29) hE dX11_numeral_28 rfl rfl rfl ?_
        refine gf_11_9 (pc' := 32) hE fl_X11_240 dX11_numeral_29 is_141 rfl (fun v11 hv11 htv11 hbv11 => ?_)
        refine dk_iload_n (pc' := 33) hE dX11_numeral_32 rfl rfl rfl ?_
        refine dk_icmp_lt (tgt := 44) (pc' := 36) hE dX11_numeral_33 (by decide) rfl (fun hc12 => ?_) (fun hc12 => ?_)
        · skip
          refine dk_aload_n (pc' := 45) hE dX11_numeral_44 rfl rfl rfl ?_
          refine dk_iconst (pc' := 46) hE dX11_numeral_45 (by decide) rfl ?_
          refine dk_aload_n (pc' := 47) hE dX11_numeral_46 rfl rfl rfl ?_
          refine gf_11_6 (pc' := 50) hE fl_X11_215 dX11_numeral_47 is_141 rfl (fun v13 hv13 htv13 hbv13 => ?_)
          refine dk_cV (pc' := 53) (as := [(0, 4), (0, v13)]) hE lk_X11_246 (ct_X11_fails l G hGd 4 v13) dX11_numeral_50 rfl is_141 rfl (by decide) (Nat.le_of_ble_eq_true rfl) ⟨rfl, (by omega)⟩ rfl (fun r15 σ14 hr15 hor15 => ?_)
          obtain ⟨rfl, hfσ14, hpr15⟩ := hr15
          have gi16 : NX σ σ14 := NX_f (NX_rf hT) hfσ14 hpr15
          refine dk_aload_n (pc' := 54) hE dX11_numeral_53 rfl rfl rfl ?_
          refine gf_11_9 (pc' := 57) hE fl_X11_240 dX11_numeral_54 is_141 rfl (fun v17 hv17 htv17 hbv17 => ?_)
          have hq17 : v11 = v17 := (show v17 = v11 by rw [hv17, hfσ14 141 9 (by omega), hv11]).symm
          subst hq17
          clear htv17 hbv17
          refine dk_istore_n (pc' := 58) (ls' := [(4, 141), (0, a), (0, b), (0, v11)]) hE dX11_numeral_57 rfl rfl (by decide) rfl ?_
          refine dk_aload_n (pc' := 59) hE dX11_numeral_58 rfl rfl rfl ?_
          refine dk_cV (pc' := 62) (as := []) hE lk_X11_250 (ct_X11_isGood l G hGd) dX11_numeral_59 rfl is_141 rfl (by decide) (Nat.le_of_ble_eq_true rfl) rfl rfl (fun r19 σ18 hr19 hor19 => ?_)
          obtain ⟨v20, rfl, hfσ18, hpr19⟩ := hr19
          have hsσ18 : σ14 = σ18 := (funext (fun k => funext (fun j => hfσ18 k j not_false))).symm
          subst hsσ18
          rcases hpr19 with ⟨rfl, hpr19⟩ | ⟨rfl, hpr19⟩
          · skip
            refine dk_if_eq (tgt := 69) (pc' := 65) hE dX11_numeral_62 (by decide) rfl (fun hc21 => absurd hc21 (by decide)) (fun hc21 => ?_)
            refine dk_aload_n (pc' := 66) hE dX11_numeral_65 rfl rfl rfl ?_
            have hz22 : σ14 141 7 = σ 141 7 := by rw [hfσ14 141 7 (by omega)]
            have hz23 : σ14 141 3 = σ 141 3 := by rw [hfσ14 141 3 (by omega)]
            have hz24 : σ14 141 3 = σ 141 3 := by rw [hfσ14 141 3 (by omega)]
            refine dk_cV (pc' := 69) (as := []) hE lk_X11_254 (ct_X11_next l G hGd) dX11_numeral_66 rfl is_141 rfl (by decide) (Nat.le_of_ble_eq_true rfl) ⟨rfl, ((NX_tk gi16).2.1), (by omega)⟩ rfl (fun r26 σ25 hr26 hor26 => ?_)
            obtain ⟨rfl, hfσ25, hpr26⟩ := hr26
            have gi27 : NX σ σ25 := NX_y gi16 hpr26
            refine dk_aload_n (pc' := 70) hE dX11_numeral_69 rfl rfl rfl ?_
            refine dk_cV (pc' := 73) (as := []) hE lk_X11_250 (ct_X11_isGood l G hGd) dX11_numeral_70 rfl is_141 rfl (by decide) (Nat.le_of_ble_eq_true rfl) rfl rfl (fun r29 σ28 hr29 hor29 => ?_)
            obtain ⟨v30, rfl, hfσ28, hpr29⟩ := hr29
            have hsσ28 : σ25 = σ28 := (funext (fun k => funext (fun j => hfσ28 k j not_false))).symm
            subst hsσ28
            rcases hpr29 with ⟨rfl, hpr29⟩ | ⟨rfl, hpr29⟩
            · skip
              refine dk_if_eq (tgt := 80) (pc' := 76) hE dX11_numeral_73 (by decide) rfl (fun hc31 => absurd hc31 (by decide)) (fun hc31 => ?_)
              refine dk_iload_n (pc' := 77) hE dX11_numeral_76 rfl rfl rfl ?_
              refine dk_goto (tgt := 81) hE dX11_numeral_77 (by decide) ?_
              exact dk_iret (st := []) hE hR dX11_numeral_81 ⟨_, rfl, (fun k_ j_ h_ => by rw [hfσ25 k_ j_ (fun w_ => h_ (w_.elim (fun x0_ => Or.inr (Or.inr (Or.inl (x0_)))) (fun y0_ => y0_.elim (fun x1_ => Or.inr (Or.inr (Or.inr (Or.inl (x1_))))) (fun y1_ => y1_.elim (fun x2_ => Or.inr (Or.inr (Or.inr (Or.inr (Or.inl (x2_)))))) (fun y2_ => y2_.elim (fun x3_ => Or.inr (Or.inr (Or.inr (Or.inr (Or.inr (Or.inl (x3_))))))) (fun y3_ => Or.inr (Or.inr (Or.inr (Or.inr (Or.inr (Or.inr (y3_)))))))))))), hfσ14 k_ j_ (fun w_ => h_ (w_.elim (fun x0_ => Or.inl (x0_)) (fun y0_ => Or.inr (Or.inl (y0_)))))]), ⟨by omega, gi27⟩⟩
            · skip
              refine dk_if_eq (tgt := 80) (pc' := 76) hE dX11_numeral_73 (by decide) rfl (fun hc32 => ?_) (fun hc32 => absurd hc32 (by decide))
              refine dk_iload_n (pc' := 81) hE dX11_numeral_80 rfl rfl rfl ?_
              exact dk_iret (st := []) hE hR dX11_numeral_81 ⟨_, rfl, (fun k_ j_ h_ => by rw [hfσ25 k_ j_ (fun w_ => h_ (w_.elim (fun x0_ => Or.inr (Or.inr (Or.inl (x0_)))) (fun y0_ => y0_.elim (fun x1_ => Or.inr (Or.inr (Or.inr (Or.inl (x1_))))) (fun y1_ => y1_.elim (fun x2_ => Or.inr (Or.inr (Or.inr (Or.inr (Or.inl (x2_)))))) (fun y2_ => y2_.elim (fun x3_ => Or.inr (Or.inr (Or.inr (Or.inr (Or.inr (Or.inl (x3_))))))) (fun y3_ => Or.inr (Or.inr (Or.inr (Or.inr (Or.inr (Or.inr (y3_)))))))))))), hfσ14 k_ j_ (fun w_ => h_ (w_.elim (fun x0_ => Or.inl (x0_)) (fun y0_ => Or.inr (Or.inl (y0_)))))]), ⟨by omega, gi27⟩⟩
          · skip
            refine dk_if_eq (tgt := 69) (pc' := 65) hE dX11_numeral_62 (by decide) rfl (fun hc33 => ?_) (fun hc33 => absurd hc33 (by decide))
            refine dk_aload_n (pc' := 70) hE dX11_numeral_69 rfl rfl rfl ?_
            refine dk_cV (pc' := 73) (as := []) hE lk_X11_250 (ct_X11_isGood l G hGd) dX11_numeral_70 rfl is_141 rfl (by decide) (Nat.le_of_ble_eq_true rfl) rfl rfl (fun r35 σ34 hr35 hor35 => ?_)
            obtain ⟨v36, rfl, hfσ34, hpr35⟩ := hr35
            have hsσ34 : σ14 = σ34 := (funext (fun k => funext (fun j => hfσ34 k j not_false))).symm
            subst hsσ34
            rcases hpr35 with ⟨rfl, hpr35⟩ | ⟨rfl, hpr35⟩
            · skip
              refine dk_if_eq (tgt := 80) (pc' := 76) hE dX11_numeral_73 (by decide) rfl (fun hc37 => absurd hc37 (by decide)) (fun hc37 => ?_)
              refine dk_iload_n (pc' := 77) hE dX11_numeral_76 rfl rfl rfl ?_
              refine dk_goto (tgt := 81) hE dX11_numeral_77 (by decide) ?_
              exact dk_iret (st := []) hE hR dX11_numeral_81 ⟨_, rfl, (fun k_ j_ h_ => by rw [hfσ14 k_ j_ (fun w_ => h_ (w_.elim (fun x0_ => Or.inl (x0_)) (fun y0_ => Or.inr (Or.inl (y0_)))))]), ⟨by omega, gi16⟩⟩
            · skip
              refine dk_if_eq (tgt := 80) (pc' := 76) hE dX11_numeral_73 (by decide) rfl (fun hc38 => ?_) (fun hc38 => absurd hc38 (by decide))
              refine dk_iload_n (pc' := 81) hE dX11_numeral_80 rfl rfl rfl ?_
              exact dk_iret (st := []) hE hR dX11_numeral_81 ⟨_, rfl, (fun k_ j_ h_ => by rw [hfσ14 k_ j_ (fun w_ => h_ (w_.elim (fun x0_ => Or.inl (x0_)) (fun y0_ => Or.inr (Or.inl (y0_)))))]), ⟨by omega, gi16⟩⟩
        · skip
          refine dk_aload_n (pc' := 37) hE dX11_numeral_36 rfl rfl rfl ?_
          refine gf_11_9 (pc' := 40) hE fl_X11_240 dX11_numeral_37 is_141 rfl (fun v39 hv39 htv39 hbv39 => ?_)
          have hq39 : v11 = v39 := (show v39 = v11 by rw [hv39, hv11]).symm
          subst hq39
          clear htv39 hbv39
          refine dk_iload_n (pc' := 41) hE dX11_numeral_40 rfl rfl rfl ?_
          refine dk_icmp_le (tgt := 53) (pc' := 44) hE dX11_numeral_41 (by decide) rfl (fun hc40 => ?_) (fun hc40 => ?_)
          · skip
            refine dk_aload_n (pc' := 54) hE dX11_numeral_53 rfl rfl rfl ?_
            refine gf_11_9 (pc' := 57) hE fl_X11_240 dX11_numeral_54 is_141 rfl (fun v41 hv41 htv41 hbv41 => ?_)
            have hq41 : v11 = v41 := (show v41 = v11 by rw [hv41, hv39]).symm
            subst hq41
            clear htv41 hbv41
            refine dk_istore_n (pc' := 58) (ls' := [(4, 141), (0, a), (0, b), (0, v11)]) hE dX11_numeral_57 rfl rfl (by decide) rfl ?_
            refine dk_aload_n (pc' := 59) hE dX11_numeral_58 rfl rfl rfl ?_
            refine dk_cV (pc' := 62) (as := []) hE lk_X11_250 (ct_X11_isGood l G hGd) dX11_numeral_59 rfl is_141 rfl (by decide) (Nat.le_of_ble_eq_true rfl) rfl rfl (fun r43 σ42 hr43 hor43 => ?_)
            obtain ⟨v44, rfl, hfσ42, hpr43⟩ := hr43
            have hsσ42 : σ = σ42 := (funext (fun k => funext (fun j => hfσ42 k j not_false))).symm
            subst hsσ42
            rcases hpr43 with ⟨rfl, hpr43⟩ | ⟨rfl, hpr43⟩
            · skip
              refine dk_if_eq (tgt := 69) (pc' := 65) hE dX11_numeral_62 (by decide) rfl (fun hc45 => absurd hc45 (by decide)) (fun hc45 => ?_)
              refine dk_aload_n (pc' := 66) hE dX11_numeral_65 rfl rfl rfl ?_
              refine dk_cV (pc' := 69) (as := []) hE lk_X11_254 (ct_X11_next l G hGd) dX11_numeral_66 rfl is_141 rfl (by decide) (Nat.le_of_ble_eq_true rfl) ⟨rfl, ((NX_tk (NX_rf hT)).2.1), (by omega)⟩ rfl (fun r47 σ46 hr47 hor47 => ?_)
              obtain ⟨rfl, hfσ46, hpr47⟩ := hr47
              have gi48 : NX σ σ46 := NX_y (NX_rf hT) hpr47
              refine dk_aload_n (pc' := 70) hE dX11_numeral_69 rfl rfl rfl ?_
              refine dk_cV (pc' := 73) (as := []) hE lk_X11_250 (ct_X11_isGood l G hGd) dX11_numeral_70 rfl is_141 rfl (by decide) (Nat.le_of_ble_eq_true rfl) rfl rfl (fun r50 σ49 hr50 hor50 => ?_)
              obtain ⟨v51, rfl, hfσ49, hpr50⟩ := hr50
              have hsσ49 : σ46 = σ49 := (funext (fun k => funext (fun j => hfσ49 k j not_false))).symm
              subst hsσ49
              rcases hpr50 with ⟨rfl, hpr50⟩ | ⟨rfl, hpr50⟩
              · skip
                refine dk_if_eq (tgt := 80) (pc' := 76) hE dX11_numeral_73 (by decide) rfl (fun hc52 => absurd hc52 (by decide)) (fun hc52 => ?_)
                refine dk_iload_n (pc' := 77) hE dX11_numeral_76 rfl rfl rfl ?_
                refine dk_goto (tgt := 81) hE dX11_numeral_77 (by decide) ?_
                exact dk_iret (st := []) hE hR dX11_numeral_81 ⟨_, rfl, (fun k_ j_ h_ => by rw [hfσ46 k_ j_ (fun w_ => h_ (w_.elim (fun x0_ => Or.inr (Or.inr (Or.inl (x0_)))) (fun y0_ => y0_.elim (fun x1_ => Or.inr (Or.inr (Or.inr (Or.inl (x1_))))) (fun y1_ => y1_.elim (fun x2_ => Or.inr (Or.inr (Or.inr (Or.inr (Or.inl (x2_)))))) (fun y2_ => y2_.elim (fun x3_ => Or.inr (Or.inr (Or.inr (Or.inr (Or.inr (Or.inl (x3_))))))) (fun y3_ => Or.inr (Or.inr (Or.inr (Or.inr (Or.inr (Or.inr (y3_))))))))))))]), ⟨by omega, gi48⟩⟩
              · skip
                refine dk_if_eq (tgt := 80) (pc' := 76) hE dX11_numeral_73 (by decide) rfl (fun hc53 => ?_) (fun hc53 => absurd hc53 (by decide))
                refine dk_iload_n (pc' := 81) hE dX11_numeral_80 rfl rfl rfl ?_
                exact dk_iret (st := []) hE hR dX11_numeral_81 ⟨_, rfl, (fun k_ j_ h_ => by rw [hfσ46 k_ j_ (fun w_ => h_ (w_.elim (fun x0_ => Or.inr (Or.inr (Or.inl (x0_)))) (fun y0_ => y0_.elim (fun x1_ => Or.inr (Or.inr (Or.inr (Or.inl (x1_))))) (fun y1_ => y1_.elim (fun x2_ => Or.inr (Or.inr (Or.inr (Or.inr (Or.inl (x2_)))))) (fun y2_ => y2_.elim (fun x3_ => Or.inr (Or.inr (Or.inr (Or.inr (Or.inr (Or.inl (x3_))))))) (fun y3_ => Or.inr (Or.inr (Or.inr (Or.inr (Or.inr (Or.inr (y3_))))))))))))]), ⟨by omega, gi48⟩⟩
            · skip
              refine dk_if_eq (tgt := 69) (pc' := 65) hE dX11_numeral_62 (by decide) rfl (fun hc54 => ?_) (fun hc54 => absurd hc54 (by decide))
              refine dk_aload_n (pc' := 70) hE dX11_numeral_69 rfl rfl rfl ?_
              refine dk_cV (pc' := 73) (as := []) hE lk_X11_250 (ct_X11_isGood l G hGd) dX11_numeral_70 rfl is_141 rfl (by decide) (Nat.le_of_ble_eq_true rfl) rfl rfl (fun r56 σ55 hr56 hor56 => ?_)
              obtain ⟨v57, rfl, hfσ55, hpr56⟩ := hr56
              have hsσ55 : σ = σ55 := (funext (fun k => funext (fun j => hfσ55 k j not_false))).symm
              subst hsσ55
              rcases hpr56 with ⟨rfl, hpr56⟩ | ⟨rfl, hpr56⟩
              · skip
                refine dk_if_eq (tgt := 80) (pc' := 76) hE dX11_numeral_73 (by decide) rfl (fun hc58 => absurd hc58 (by decide)) (fun hc58 => ?_)
                refine dk_iload_n (pc' := 77) hE dX11_numeral_76 rfl rfl rfl ?_
                refine dk_goto (tgt := 81) hE dX11_numeral_77 (by decide) ?_
                exact dk_iret (st := []) hE hR dX11_numeral_81 ⟨_, rfl, (fun k_ j_ h_ => rfl), ⟨by omega, (NX_rf hT)⟩⟩
              · skip
                refine dk_if_eq (tgt := 80) (pc' := 76) hE dX11_numeral_73 (by decide) rfl (fun hc59 => ?_) (fun hc59 => absurd hc59 (by decide))
                refine dk_iload_n (pc' := 81) hE dX11_numeral_80 rfl rfl rfl ?_
                exact dk_iret (st := []) hE hR dX11_numeral_81 ⟨_, rfl, (fun k_ j_ h_ => rfl), ⟨by omega, (NX_rf hT)⟩⟩
          · skip
            refine dk_aload_n (pc' := 45) hE dX11_numeral_44 rfl rfl rfl ?_
            refine dk_iconst (pc' := 46) hE dX11_numeral_45 (by decide) rfl ?_
            refine dk_aload_n (pc' := 47) hE dX11_numeral_46 rfl rfl rfl ?_
            refine gf_11_6 (pc' := 50) hE fl_X11_215 dX11_numeral_47 is_141 rfl (fun v60 hv60 htv60 hbv60 => ?_)
            refine dk_cV (pc' := 53) (as := [(0, 4), (0, v60)]) hE lk_X11_246 (ct_X11_fails l G hGd 4 v60) dX11_numeral_50 rfl is_141 rfl (by decide) (Nat.le_of_ble_eq_true rfl) ⟨rfl, (by omega)⟩ rfl (fun r62 σ61 hr62 hor62 => ?_)
            obtain ⟨rfl, hfσ61, hpr62⟩ := hr62
            have gi63 : NX σ σ61 := NX_f (NX_rf hT) hfσ61 hpr62
            refine dk_aload_n (pc' := 54) hE dX11_numeral_53 rfl rfl rfl ?_
            refine gf_11_9 (pc' := 57) hE fl_X11_240 dX11_numeral_54 is_141 rfl (fun v64 hv64 htv64 hbv64 => ?_)
            have hq64 : v11 = v64 := (show v64 = v11 by rw [hv64, hfσ61 141 9 (by omega), hv39]).symm
            subst hq64
            clear htv64 hbv64
            refine dk_istore_n (pc' := 58) (ls' := [(4, 141), (0, a), (0, b), (0, v11)]) hE dX11_numeral_57 rfl rfl (by decide) rfl ?_
            refine dk_aload_n (pc' := 59) hE dX11_numeral_58 rfl rfl rfl ?_
            refine dk_cV (pc' := 62) (as := []) hE lk_X11_250 (ct_X11_isGood l G hGd) dX11_numeral_59 rfl is_141 rfl (by decide) (Nat.le_of_ble_eq_true rfl) rfl rfl (fun r66 σ65 hr66 hor66 => ?_)
            obtain ⟨v67, rfl, hfσ65, hpr66⟩ := hr66
            have hsσ65 : σ61 = σ65 := (funext (fun k => funext (fun j => hfσ65 k j not_false))).symm
            subst hsσ65
            rcases hpr66 with ⟨rfl, hpr66⟩ | ⟨rfl, hpr66⟩
            · skip
              refine dk_if_eq (tgt := 69) (pc' := 65) hE dX11_numeral_62 (by decide) rfl (fun hc68 => absurd hc68 (by decide)) (fun hc68 => ?_)
              refine dk_aload_n (pc' := 66) hE dX11_numeral_65 rfl rfl rfl ?_
              have hz69 : σ61 141 7 = σ 141 7 := by rw [hfσ61 141 7 (by omega)]
              have hz70 : σ61 141 3 = σ 141 3 := by rw [hfσ61 141 3 (by omega)]
              have hz71 : σ61 141 3 = σ 141 3 := by rw [hfσ61 141 3 (by omega)]
              refine dk_cV (pc' := 69) (as := []) hE lk_X11_254 (ct_X11_next l G hGd) dX11_numeral_66 rfl is_141 rfl (by decide) (Nat.le_of_ble_eq_true rfl) ⟨rfl, ((NX_tk gi63).2.1), (by omega)⟩ rfl (fun r73 σ72 hr73 hor73 => ?_)
              obtain ⟨rfl, hfσ72, hpr73⟩ := hr73
              have gi74 : NX σ σ72 := NX_y gi63 hpr73
              refine dk_aload_n (pc' := 70) hE dX11_numeral_69 rfl rfl rfl ?_
              refine dk_cV (pc' := 73) (as := []) hE lk_X11_250 (ct_X11_isGood l G hGd) dX11_numeral_70 rfl is_141 rfl (by decide) (Nat.le_of_ble_eq_true rfl) rfl rfl (fun r76 σ75 hr76 hor76 => ?_)
              obtain ⟨v77, rfl, hfσ75, hpr76⟩ := hr76
              have hsσ75 : σ72 = σ75 := (funext (fun k => funext (fun j => hfσ75 k j not_false))).symm
              subst hsσ75
              rcases hpr76 with ⟨rfl, hpr76⟩ | ⟨rfl, hpr76⟩
              · skip
                refine dk_if_eq (tgt := 80) (pc' := 76) hE dX11_numeral_73 (by decide) rfl (fun hc78 => absurd hc78 (by decide)) (fun hc78 => ?_)
                refine dk_iload_n (pc' := 77) hE dX11_numeral_76 rfl rfl rfl ?_
                refine dk_goto (tgt := 81) hE dX11_numeral_77 (by decide) ?_
                exact dk_iret (st := []) hE hR dX11_numeral_81 ⟨_, rfl, (fun k_ j_ h_ => by rw [hfσ72 k_ j_ (fun w_ => h_ (w_.elim (fun x0_ => Or.inr (Or.inr (Or.inl (x0_)))) (fun y0_ => y0_.elim (fun x1_ => Or.inr (Or.inr (Or.inr (Or.inl (x1_))))) (fun y1_ => y1_.elim (fun x2_ => Or.inr (Or.inr (Or.inr (Or.inr (Or.inl (x2_)))))) (fun y2_ => y2_.elim (fun x3_ => Or.inr (Or.inr (Or.inr (Or.inr (Or.inr (Or.inl (x3_))))))) (fun y3_ => Or.inr (Or.inr (Or.inr (Or.inr (Or.inr (Or.inr (y3_)))))))))))), hfσ61 k_ j_ (fun w_ => h_ (w_.elim (fun x0_ => Or.inl (x0_)) (fun y0_ => Or.inr (Or.inl (y0_)))))]), ⟨by omega, gi74⟩⟩
              · skip
                refine dk_if_eq (tgt := 80) (pc' := 76) hE dX11_numeral_73 (by decide) rfl (fun hc79 => ?_) (fun hc79 => absurd hc79 (by decide))
                refine dk_iload_n (pc' := 81) hE dX11_numeral_80 rfl rfl rfl ?_
                exact dk_iret (st := []) hE hR dX11_numeral_81 ⟨_, rfl, (fun k_ j_ h_ => by rw [hfσ72 k_ j_ (fun w_ => h_ (w_.elim (fun x0_ => Or.inr (Or.inr (Or.inl (x0_)))) (fun y0_ => y0_.elim (fun x1_ => Or.inr (Or.inr (Or.inr (Or.inl (x1_))))) (fun y1_ => y1_.elim (fun x2_ => Or.inr (Or.inr (Or.inr (Or.inr (Or.inl (x2_)))))) (fun y2_ => y2_.elim (fun x3_ => Or.inr (Or.inr (Or.inr (Or.inr (Or.inr (Or.inl (x3_))))))) (fun y3_ => Or.inr (Or.inr (Or.inr (Or.inr (Or.inr (Or.inr (y3_)))))))))))), hfσ61 k_ j_ (fun w_ => h_ (w_.elim (fun x0_ => Or.inl (x0_)) (fun y0_ => Or.inr (Or.inl (y0_)))))]), ⟨by omega, gi74⟩⟩
            · skip
              refine dk_if_eq (tgt := 69) (pc' := 65) hE dX11_numeral_62 (by decide) rfl (fun hc80 => ?_) (fun hc80 => absurd hc80 (by decide))
              refine dk_aload_n (pc' := 70) hE dX11_numeral_69 rfl rfl rfl ?_
              refine dk_cV (pc' := 73) (as := []) hE lk_X11_250 (ct_X11_isGood l G hGd) dX11_numeral_70 rfl is_141 rfl (by decide) (Nat.le_of_ble_eq_true rfl) rfl rfl (fun r82 σ81 hr82 hor82 => ?_)
              obtain ⟨v83, rfl, hfσ81, hpr82⟩ := hr82
              have hsσ81 : σ61 = σ81 := (funext (fun k => funext (fun j => hfσ81 k j not_false))).symm
              subst hsσ81
              rcases hpr82 with ⟨rfl, hpr82⟩ | ⟨rfl, hpr82⟩
              · skip
                refine dk_if_eq (tgt := 80) (pc' := 76) hE dX11_numeral_73 (by decide) rfl (fun hc84 => absurd hc84 (by decide)) (fun hc84 => ?_)
                refine dk_iload_n (pc' := 77) hE dX11_numeral_76 rfl rfl rfl ?_
                refine dk_goto (tgt := 81) hE dX11_numeral_77 (by decide) ?_
                exact dk_iret (st := []) hE hR dX11_numeral_81 ⟨_, rfl, (fun k_ j_ h_ => by rw [hfσ61 k_ j_ (fun w_ => h_ (w_.elim (fun x0_ => Or.inl (x0_)) (fun y0_ => Or.inr (Or.inl (y0_)))))]), ⟨by omega, gi63⟩⟩
              · skip
                refine dk_if_eq (tgt := 80) (pc' := 76) hE dX11_numeral_73 (by decide) rfl (fun hc85 => ?_) (fun hc85 => absurd hc85 (by decide))
                refine dk_iload_n (pc' := 81) hE dX11_numeral_80 rfl rfl rfl ?_
                exact dk_iret (st := []) hE hR dX11_numeral_81 ⟨_, rfl, (fun k_ j_ h_ => by rw [hfσ61 k_ j_ (fun w_ => h_ (w_.elim (fun x0_ => Or.inl (x0_)) (fun y0_ => Or.inr (Or.inl (y0_)))))]), ⟨by omega, gi63⟩⟩
      · skip
        refine dk_if_eq (tgt := 53) (pc' := 28) hE dX11_numeral_25 (by decide) rfl (fun hc86 => ?_) (fun hc86 => absurd hc86 (by decide))
        refine dk_aload_n (pc' := 54) hE dX11_numeral_53 rfl rfl rfl ?_
        refine gf_11_9 (pc' := 57) hE fl_X11_240 dX11_numeral_54 is_141 rfl (fun v87 hv87 htv87 hbv87 => ?_)
        refine dk_istore_n (pc' := 58) (ls' := [(4, 141), (0, a), (0, b), (0, v87)]) hE dX11_numeral_57 rfl rfl (by decide) rfl ?_
        refine dk_aload_n (pc' := 59) hE dX11_numeral_58 rfl rfl rfl ?_
        refine dk_cV (pc' := 62) (as := []) hE lk_X11_250 (ct_X11_isGood l G hGd) dX11_numeral_59 rfl is_141 rfl (by decide) (Nat.le_of_ble_eq_true rfl) rfl rfl (fun r89 σ88 hr89 hor89 => ?_)
        obtain ⟨v90, rfl, hfσ88, hpr89⟩ := hr89
        have hsσ88 : σ = σ88 := (funext (fun k => funext (fun j => hfσ88 k j not_false))).symm
        subst hsσ88
        rcases hpr89 with ⟨rfl, hpr89⟩ | ⟨rfl, hpr89⟩
        · skip
          refine dk_if_eq (tgt := 69) (pc' := 65) hE dX11_numeral_62 (by decide) rfl (fun hc91 => absurd hc91 (by decide)) (fun hc91 => ?_)
          refine dk_aload_n (pc' := 66) hE dX11_numeral_65 rfl rfl rfl ?_
          refine dk_cV (pc' := 69) (as := []) hE lk_X11_254 (ct_X11_next l G hGd) dX11_numeral_66 rfl is_141 rfl (by decide) (Nat.le_of_ble_eq_true rfl) ⟨rfl, ((NX_tk (NX_rf hT)).2.1), (by omega)⟩ rfl (fun r93 σ92 hr93 hor93 => ?_)
          obtain ⟨rfl, hfσ92, hpr93⟩ := hr93
          have gi94 : NX σ σ92 := NX_y (NX_rf hT) hpr93
          refine dk_aload_n (pc' := 70) hE dX11_numeral_69 rfl rfl rfl ?_
          refine dk_cV (pc' := 73) (as := []) hE lk_X11_250 (ct_X11_isGood l G hGd) dX11_numeral_70 rfl is_141 rfl (by decide) (Nat.le_of_ble_eq_true rfl) rfl rfl (fun r96 σ95 hr96 hor96 => ?_)
          obtain ⟨v97, rfl, hfσ95, hpr96⟩ := hr96
          have hsσ95 : σ92 = σ95 := (funext (fun k => funext (fun j => hfσ95 k j not_false))).symm
          subst hsσ95
          rcases hpr96 with ⟨rfl, hpr96⟩ | ⟨rfl, hpr96⟩
          · skip
            refine dk_if_eq (tgt := 80) (pc' := 76) hE dX11_numeral_73 (by decide) rfl (fun hc98 => absurd hc98 (by decide)) (fun hc98 => ?_)
            refine dk_iload_n (pc' := 77) hE dX11_numeral_76 rfl rfl rfl ?_
            refine dk_goto (tgt := 81) hE dX11_numeral_77 (by decide) ?_
            exact dk_iret (st := []) hE hR dX11_numeral_81 ⟨_, rfl, (fun k_ j_ h_ => by rw [hfσ92 k_ j_ (fun w_ => h_ (w_.elim (fun x0_ => Or.inr (Or.inr (Or.inl (x0_)))) (fun y0_ => y0_.elim (fun x1_ => Or.inr (Or.inr (Or.inr (Or.inl (x1_))))) (fun y1_ => y1_.elim (fun x2_ => Or.inr (Or.inr (Or.inr (Or.inr (Or.inl (x2_)))))) (fun y2_ => y2_.elim (fun x3_ => Or.inr (Or.inr (Or.inr (Or.inr (Or.inr (Or.inl (x3_))))))) (fun y3_ => Or.inr (Or.inr (Or.inr (Or.inr (Or.inr (Or.inr (y3_))))))))))))]), ⟨by omega, gi94⟩⟩
          · skip
            refine dk_if_eq (tgt := 80) (pc' := 76) hE dX11_numeral_73 (by decide) rfl (fun hc99 => ?_) (fun hc99 => absurd hc99 (by decide))
            refine dk_iload_n (pc' := 81) hE dX11_numeral_80 rfl rfl rfl ?_
            exact dk_iret (st := []) hE hR dX11_numeral_81 ⟨_, rfl, (fun k_ j_ h_ => by rw [hfσ92 k_ j_ (fun w_ => h_ (w_.elim (fun x0_ => Or.inr (Or.inr (Or.inl (x0_)))) (fun y0_ => y0_.elim (fun x1_ => Or.inr (Or.inr (Or.inr (Or.inl (x1_))))) (fun y1_ => y1_.elim (fun x2_ => Or.inr (Or.inr (Or.inr (Or.inr (Or.inl (x2_)))))) (fun y2_ => y2_.elim (fun x3_ => Or.inr (Or.inr (Or.inr (Or.inr (Or.inr (Or.inl (x3_))))))) (fun y3_ => Or.inr (Or.inr (Or.inr (Or.inr (Or.inr (Or.inr (y3_))))))))))))]), ⟨by omega, gi94⟩⟩
        · skip
          refine dk_if_eq (tgt := 69) (pc' := 65) hE dX11_numeral_62 (by decide) rfl (fun hc100 => ?_) (fun hc100 => absurd hc100 (by decide))
          refine dk_aload_n (pc' := 70) hE dX11_numeral_69 rfl rfl rfl ?_
          refine dk_cV (pc' := 73) (as := []) hE lk_X11_250 (ct_X11_isGood l G hGd) dX11_numeral_70 rfl is_141 rfl (by decide) (Nat.le_of_ble_eq_true rfl) rfl rfl (fun r102 σ101 hr102 hor102 => ?_)
          obtain ⟨v103, rfl, hfσ101, hpr102⟩ := hr102
          have hsσ101 : σ = σ101 := (funext (fun k => funext (fun j => hfσ101 k j not_false))).symm
          subst hsσ101
          rcases hpr102 with ⟨rfl, hpr102⟩ | ⟨rfl, hpr102⟩
          · skip
            refine dk_if_eq (tgt := 80) (pc' := 76) hE dX11_numeral_73 (by decide) rfl (fun hc104 => absurd hc104 (by decide)) (fun hc104 => ?_)
            refine dk_iload_n (pc' := 77) hE dX11_numeral_76 rfl rfl rfl ?_
            refine dk_goto (tgt := 81) hE dX11_numeral_77 (by decide) ?_
            exact dk_iret (st := []) hE hR dX11_numeral_81 ⟨_, rfl, (fun k_ j_ h_ => rfl), ⟨by omega, (NX_rf hT)⟩⟩
          · skip
            refine dk_if_eq (tgt := 80) (pc' := 76) hE dX11_numeral_73 (by decide) rfl (fun hc105 => ?_) (fun hc105 => absurd hc105 (by decide))
            refine dk_iload_n (pc' := 81) hE dX11_numeral_80 rfl rfl rfl ?_
            exact dk_iret (st := []) hE hR dX11_numeral_81 ⟨_, rfl, (fun k_ j_ h_ => rfl), ⟨by omega, (NX_rf hT)⟩⟩
    · skip
      refine dk_aload_n (pc' := 18) hE dX11_numeral_17 rfl rfl rfl ?_
      refine dk_cV (pc' := 21) (as := []) hE lk_X11_257 (ct_X11_wrong l G hGd) dX11_numeral_18 rfl is_141 rfl (by decide) (Nat.le_of_ble_eq_true rfl) rfl rfl (fun r107 σ106 hr107 hor107 => ?_)
      obtain ⟨rfl, hfσ106, hpr107⟩ := hr107
      have gi108 : NX σ σ106 := NX_f (NX_rf hT) hfσ106 hpr107
      refine dk_aload_n (pc' := 22) hE dX11_numeral_21 rfl rfl rfl ?_
      refine dk_cV (pc' := 25) (as := []) hE lk_X11_250 (ct_X11_isGood l G hGd) dX11_numeral_22 rfl is_141 rfl (by decide) (Nat.le_of_ble_eq_true rfl) rfl rfl (fun r110 σ109 hr110 hor110 => ?_)
      obtain ⟨v111, rfl, hfσ109, hpr110⟩ := hr110
      have hsσ109 : σ106 = σ109 := (funext (fun k => funext (fun j => hfσ109 k j not_false))).symm
      subst hsσ109
      rcases hpr110 with ⟨rfl, hpr110⟩ | ⟨rfl, hpr110⟩
      · skip
        refine dk_if_eq (tgt := 53) (pc' := 28) hE dX11_numeral_25 (by decide) rfl (fun hc112 => absurd hc112 (by decide)) (fun hc112 => ?_)
        refine dk_aload_n (pc' := 29) hE dX11_numeral_28 rfl rfl rfl ?_
        refine gf_11_9 (pc' := 32) hE fl_X11_240 dX11_numeral_29 is_141 rfl (fun v113 hv113 htv113 hbv113 => ?_)
        refine dk_iload_n (pc' := 33) hE dX11_numeral_32 rfl rfl rfl ?_
        refine dk_icmp_lt (tgt := 44) (pc' := 36) hE dX11_numeral_33 (by decide) rfl (fun hc114 => ?_) (fun hc114 => ?_)
        · skip
          refine dk_aload_n (pc' := 45) hE dX11_numeral_44 rfl rfl rfl ?_
          refine dk_iconst (pc' := 46) hE dX11_numeral_45 (by decide) rfl ?_
          refine dk_aload_n (pc' := 47) hE dX11_numeral_46 rfl rfl rfl ?_
          refine gf_11_6 (pc' := 50) hE fl_X11_215 dX11_numeral_47 is_141 rfl (fun v115 hv115 htv115 hbv115 => ?_)
          refine dk_cV (pc' := 53) (as := [(0, 4), (0, v115)]) hE lk_X11_246 (ct_X11_fails l G hGd 4 v115) dX11_numeral_50 rfl is_141 rfl (by decide) (Nat.le_of_ble_eq_true rfl) ⟨rfl, (by omega)⟩ rfl (fun r117 σ116 hr117 hor117 => ?_)
          obtain ⟨rfl, hfσ116, hpr117⟩ := hr117
          have gi118 : NX σ σ116 := NX_f gi108 hfσ116 hpr117
          refine dk_aload_n (pc' := 54) hE dX11_numeral_53 rfl rfl rfl ?_
          refine gf_11_9 (pc' := 57) hE fl_X11_240 dX11_numeral_54 is_141 rfl (fun v119 hv119 htv119 hbv119 => ?_)
          have hq119 : v113 = v119 := (show v119 = v113 by rw [hv119, hfσ116 141 9 (by omega), hv113]).symm
          subst hq119
          clear htv119 hbv119
          refine dk_istore_n (pc' := 58) (ls' := [(4, 141), (0, a), (0, b), (0, v113)]) hE dX11_numeral_57 rfl rfl (by decide) rfl ?_
          refine dk_aload_n (pc' := 59) hE dX11_numeral_58 rfl rfl rfl ?_
          refine dk_cV (pc' := 62) (as := []) hE lk_X11_250 (ct_X11_isGood l G hGd) dX11_numeral_59 rfl is_141 rfl (by decide) (Nat.le_of_ble_eq_true rfl) rfl rfl (fun r121 σ120 hr121 hor121 => ?_)
          obtain ⟨v122, rfl, hfσ120, hpr121⟩ := hr121
          have hsσ120 : σ116 = σ120 := (funext (fun k => funext (fun j => hfσ120 k j not_false))).symm
          subst hsσ120
          rcases hpr121 with ⟨rfl, hpr121⟩ | ⟨rfl, hpr121⟩
          · skip
            refine dk_if_eq (tgt := 69) (pc' := 65) hE dX11_numeral_62 (by decide) rfl (fun hc123 => absurd hc123 (by decide)) (fun hc123 => ?_)
            refine dk_aload_n (pc' := 66) hE dX11_numeral_65 rfl rfl rfl ?_
            have hz124 : σ116 141 7 = σ 141 7 := by rw [hfσ116 141 7 (by omega), hfσ106 141 7 (by omega)]
            have hz125 : σ116 141 3 = σ 141 3 := by rw [hfσ116 141 3 (by omega), hfσ106 141 3 (by omega)]
            have hz126 : σ116 141 3 = σ 141 3 := by rw [hfσ116 141 3 (by omega), hfσ106 141 3 (by omega)]
            refine dk_cV (pc' := 69) (as := []) hE lk_X11_254 (ct_X11_next l G hGd) dX11_numeral_66 rfl is_141 rfl (by decide) (Nat.le_of_ble_eq_true rfl) ⟨rfl, ((NX_tk gi118).2.1), (by omega)⟩ rfl (fun r128 σ127 hr128 hor128 => ?_)
            obtain ⟨rfl, hfσ127, hpr128⟩ := hr128
            have gi129 : NX σ σ127 := NX_y gi118 hpr128
            refine dk_aload_n (pc' := 70) hE dX11_numeral_69 rfl rfl rfl ?_
            refine dk_cV (pc' := 73) (as := []) hE lk_X11_250 (ct_X11_isGood l G hGd) dX11_numeral_70 rfl is_141 rfl (by decide) (Nat.le_of_ble_eq_true rfl) rfl rfl (fun r131 σ130 hr131 hor131 => ?_)
            obtain ⟨v132, rfl, hfσ130, hpr131⟩ := hr131
            have hsσ130 : σ127 = σ130 := (funext (fun k => funext (fun j => hfσ130 k j not_false))).symm
            subst hsσ130
            rcases hpr131 with ⟨rfl, hpr131⟩ | ⟨rfl, hpr131⟩
            · skip
              refine dk_if_eq (tgt := 80) (pc' := 76) hE dX11_numeral_73 (by decide) rfl (fun hc133 => absurd hc133 (by decide)) (fun hc133 => ?_)
              refine dk_iload_n (pc' := 77) hE dX11_numeral_76 rfl rfl rfl ?_
              refine dk_goto (tgt := 81) hE dX11_numeral_77 (by decide) ?_
              exact dk_iret (st := []) hE hR dX11_numeral_81 ⟨_, rfl, (fun k_ j_ h_ => by rw [hfσ127 k_ j_ (fun w_ => h_ (w_.elim (fun x0_ => Or.inr (Or.inr (Or.inl (x0_)))) (fun y0_ => y0_.elim (fun x1_ => Or.inr (Or.inr (Or.inr (Or.inl (x1_))))) (fun y1_ => y1_.elim (fun x2_ => Or.inr (Or.inr (Or.inr (Or.inr (Or.inl (x2_)))))) (fun y2_ => y2_.elim (fun x3_ => Or.inr (Or.inr (Or.inr (Or.inr (Or.inr (Or.inl (x3_))))))) (fun y3_ => Or.inr (Or.inr (Or.inr (Or.inr (Or.inr (Or.inr (y3_)))))))))))), hfσ116 k_ j_ (fun w_ => h_ (w_.elim (fun x0_ => Or.inl (x0_)) (fun y0_ => Or.inr (Or.inl (y0_))))), hfσ106 k_ j_ (fun w_ => h_ (w_.elim (fun x0_ => Or.inl (x0_)) (fun y0_ => Or.inr (Or.inl (y0_)))))]), ⟨by omega, gi129⟩⟩
            · skip
              refine dk_if_eq (tgt := 80) (pc' := 76) hE dX11_numeral_73 (by decide) rfl (fun hc134 => ?_) (fun hc134 => absurd hc134 (by decide))
              refine dk_iload_n (pc' := 81) hE dX11_numeral_80 rfl rfl rfl ?_
              exact dk_iret (st := []) hE hR dX11_numeral_81 ⟨_, rfl, (fun k_ j_ h_ => by rw [hfσ127 k_ j_ (fun w_ => h_ (w_.elim (fun x0_ => Or.inr (Or.inr (Or.inl (x0_)))) (fun y0_ => y0_.elim (fun x1_ => Or.inr (Or.inr (Or.inr (Or.inl (x1_))))) (fun y1_ => y1_.elim (fun x2_ => Or.inr (Or.inr (Or.inr (Or.inr (Or.inl (x2_)))))) (fun y2_ => y2_.elim (fun x3_ => Or.inr (Or.inr (Or.inr (Or.inr (Or.inr (Or.inl (x3_))))))) (fun y3_ => Or.inr (Or.inr (Or.inr (Or.inr (Or.inr (Or.inr (y3_)))))))))))), hfσ116 k_ j_ (fun w_ => h_ (w_.elim (fun x0_ => Or.inl (x0_)) (fun y0_ => Or.inr (Or.inl (y0_))))), hfσ106 k_ j_ (fun w_ => h_ (w_.elim (fun x0_ => Or.inl (x0_)) (fun y0_ => Or.inr (Or.inl (y0_)))))]), ⟨by omega, gi129⟩⟩
          · skip
            refine dk_if_eq (tgt := 69) (pc' := 65) hE dX11_numeral_62 (by decide) rfl (fun hc135 => ?_) (fun hc135 => absurd hc135 (by decide))
            refine dk_aload_n (pc' := 70) hE dX11_numeral_69 rfl rfl rfl ?_
            refine dk_cV (pc' := 73) (as := []) hE lk_X11_250 (ct_X11_isGood l G hGd) dX11_numeral_70 rfl is_141 rfl (by decide) (Nat.le_of_ble_eq_true rfl) rfl rfl (fun r137 σ136 hr137 hor137 => ?_)
            obtain ⟨v138, rfl, hfσ136, hpr137⟩ := hr137
            have hsσ136 : σ116 = σ136 := (funext (fun k => funext (fun j => hfσ136 k j not_false))).symm
            subst hsσ136
            rcases hpr137 with ⟨rfl, hpr137⟩ | ⟨rfl, hpr137⟩
            · skip
              refine dk_if_eq (tgt := 80) (pc' := 76) hE dX11_numeral_73 (by decide) rfl (fun hc139 => absurd hc139 (by decide)) (fun hc139 => ?_)
              refine dk_iload_n (pc' := 77) hE dX11_numeral_76 rfl rfl rfl ?_
              refine dk_goto (tgt := 81) hE dX11_numeral_77 (by decide) ?_
              exact dk_iret (st := []) hE hR dX11_numeral_81 ⟨_, rfl, (fun k_ j_ h_ => by rw [hfσ116 k_ j_ (fun w_ => h_ (w_.elim (fun x0_ => Or.inl (x0_)) (fun y0_ => Or.inr (Or.inl (y0_))))), hfσ106 k_ j_ (fun w_ => h_ (w_.elim (fun x0_ => Or.inl (x0_)) (fun y0_ => Or.inr (Or.inl (y0_)))))]), ⟨by omega, gi118⟩⟩
            · skip
              refine dk_if_eq (tgt := 80) (pc' := 76) hE dX11_numeral_73 (by decide) rfl (fun hc140 => ?_) (fun hc140 => absurd hc140 (by decide))
              refine dk_iload_n (pc' := 81) hE dX11_numeral_80 rfl rfl rfl ?_
              exact dk_iret (st := []) hE hR dX11_numeral_81 ⟨_, rfl, (fun k_ j_ h_ => by rw [hfσ116 k_ j_ (fun w_ => h_ (w_.elim (fun x0_ => Or.inl (x0_)) (fun y0_ => Or.inr (Or.inl (y0_))))), hfσ106 k_ j_ (fun w_ => h_ (w_.elim (fun x0_ => Or.inl (x0_)) (fun y0_ => Or.inr (Or.inl (y0_)))))]), ⟨by omega, gi118⟩⟩
        · skip
          refine dk_aload_n (pc' := 37) hE dX11_numeral_36 rfl rfl rfl ?_
          refine gf_11_9 (pc' := 40) hE fl_X11_240 dX11_numeral_37 is_141 rfl (fun v141 hv141 htv141 hbv141 => ?_)
          have hq141 : v113 = v141 := (show v141 = v113 by rw [hv141, hv113]).symm
          subst hq141
          clear htv141 hbv141
          refine dk_iload_n (pc' := 41) hE dX11_numeral_40 rfl rfl rfl ?_
          refine dk_icmp_le (tgt := 53) (pc' := 44) hE dX11_numeral_41 (by decide) rfl (fun hc142 => ?_) (fun hc142 => ?_)
          · skip
            refine dk_aload_n (pc' := 54) hE dX11_numeral_53 rfl rfl rfl ?_
            refine gf_11_9 (pc' := 57) hE fl_X11_240 dX11_numeral_54 is_141 rfl (fun v143 hv143 htv143 hbv143 => ?_)
            have hq143 : v113 = v143 := (show v143 = v113 by rw [hv143, hv141]).symm
            subst hq143
            clear htv143 hbv143
            refine dk_istore_n (pc' := 58) (ls' := [(4, 141), (0, a), (0, b), (0, v113)]) hE dX11_numeral_57 rfl rfl (by decide) rfl ?_
            refine dk_aload_n (pc' := 59) hE dX11_numeral_58 rfl rfl rfl ?_
            refine dk_cV (pc' := 62) (as := []) hE lk_X11_250 (ct_X11_isGood l G hGd) dX11_numeral_59 rfl is_141 rfl (by decide) (Nat.le_of_ble_eq_true rfl) rfl rfl (fun r145 σ144 hr145 hor145 => ?_)
            obtain ⟨v146, rfl, hfσ144, hpr145⟩ := hr145
            have hsσ144 : σ106 = σ144 := (funext (fun k => funext (fun j => hfσ144 k j not_false))).symm
            subst hsσ144
            rcases hpr145 with ⟨rfl, hpr145⟩ | ⟨rfl, hpr145⟩
            · skip
              refine dk_if_eq (tgt := 69) (pc' := 65) hE dX11_numeral_62 (by decide) rfl (fun hc147 => absurd hc147 (by decide)) (fun hc147 => ?_)
              refine dk_aload_n (pc' := 66) hE dX11_numeral_65 rfl rfl rfl ?_
              have hz148 : σ106 141 7 = σ 141 7 := by rw [hfσ106 141 7 (by omega)]
              have hz149 : σ106 141 3 = σ 141 3 := by rw [hfσ106 141 3 (by omega)]
              have hz150 : σ106 141 3 = σ 141 3 := by rw [hfσ106 141 3 (by omega)]
              refine dk_cV (pc' := 69) (as := []) hE lk_X11_254 (ct_X11_next l G hGd) dX11_numeral_66 rfl is_141 rfl (by decide) (Nat.le_of_ble_eq_true rfl) ⟨rfl, ((NX_tk gi108).2.1), (by omega)⟩ rfl (fun r152 σ151 hr152 hor152 => ?_)
              obtain ⟨rfl, hfσ151, hpr152⟩ := hr152
              have gi153 : NX σ σ151 := NX_y gi108 hpr152
              refine dk_aload_n (pc' := 70) hE dX11_numeral_69 rfl rfl rfl ?_
              refine dk_cV (pc' := 73) (as := []) hE lk_X11_250 (ct_X11_isGood l G hGd) dX11_numeral_70 rfl is_141 rfl (by decide) (Nat.le_of_ble_eq_true rfl) rfl rfl (fun r155 σ154 hr155 hor155 => ?_)
              obtain ⟨v156, rfl, hfσ154, hpr155⟩ := hr155
              have hsσ154 : σ151 = σ154 := (funext (fun k => funext (fun j => hfσ154 k j not_false))).symm
              subst hsσ154
              rcases hpr155 with ⟨rfl, hpr155⟩ | ⟨rfl, hpr155⟩
              · skip
                refine dk_if_eq (tgt := 80) (pc' := 76) hE dX11_numeral_73 (by decide) rfl (fun hc157 => absurd hc157 (by decide)) (fun hc157 => ?_)
                refine dk_iload_n (pc' := 77) hE dX11_numeral_76 rfl rfl rfl ?_
                refine dk_goto (tgt := 81) hE dX11_numeral_77 (by decide) ?_
                exact dk_iret (st := []) hE hR dX11_numeral_81 ⟨_, rfl, (fun k_ j_ h_ => by rw [hfσ151 k_ j_ (fun w_ => h_ (w_.elim (fun x0_ => Or.inr (Or.inr (Or.inl (x0_)))) (fun y0_ => y0_.elim (fun x1_ => Or.inr (Or.inr (Or.inr (Or.inl (x1_))))) (fun y1_ => y1_.elim (fun x2_ => Or.inr (Or.inr (Or.inr (Or.inr (Or.inl (x2_)))))) (fun y2_ => y2_.elim (fun x3_ => Or.inr (Or.inr (Or.inr (Or.inr (Or.inr (Or.inl (x3_))))))) (fun y3_ => Or.inr (Or.inr (Or.inr (Or.inr (Or.inr (Or.inr (y3_)))))))))))), hfσ106 k_ j_ (fun w_ => h_ (w_.elim (fun x0_ => Or.inl (x0_)) (fun y0_ => Or.inr (Or.inl (y0_)))))]), ⟨by omega, gi153⟩⟩
              · skip
                refine dk_if_eq (tgt := 80) (pc' := 76) hE dX11_numeral_73 (by decide) rfl (fun hc158 => ?_) (fun hc158 => absurd hc158 (by decide))
                refine dk_iload_n (pc' := 81) hE dX11_numeral_80 rfl rfl rfl ?_
                exact dk_iret (st := []) hE hR dX11_numeral_81 ⟨_, rfl, (fun k_ j_ h_ => by rw [hfσ151 k_ j_ (fun w_ => h_ (w_.elim (fun x0_ => Or.inr (Or.inr (Or.inl (x0_)))) (fun y0_ => y0_.elim (fun x1_ => Or.inr (Or.inr (Or.inr (Or.inl (x1_))))) (fun y1_ => y1_.elim (fun x2_ => Or.inr (Or.inr (Or.inr (Or.inr (Or.inl (x2_)))))) (fun y2_ => y2_.elim (fun x3_ => Or.inr (Or.inr (Or.inr (Or.inr (Or.inr (Or.inl (x3_))))))) (fun y3_ => Or.inr (Or.inr (Or.inr (Or.inr (Or.inr (Or.inr (y3_)))))))))))), hfσ106 k_ j_ (fun w_ => h_ (w_.elim (fun x0_ => Or.inl (x0_)) (fun y0_ => Or.inr (Or.inl (y0_)))))]), ⟨by omega, gi153⟩⟩
            · skip
              refine dk_if_eq (tgt := 69) (pc' := 65) hE dX11_numeral_62 (by decide) rfl (fun hc159 => ?_) (fun hc159 => absurd hc159 (by decide))
              refine dk_aload_n (pc' := 70) hE dX11_numeral_69 rfl rfl rfl ?_
              refine dk_cV (pc' := 73) (as := []) hE lk_X11_250 (ct_X11_isGood l G hGd) dX11_numeral_70 rfl is_141 rfl (by decide) (Nat.le_of_ble_eq_true rfl) rfl rfl (fun r161 σ160 hr161 hor161 => ?_)
              obtain ⟨v162, rfl, hfσ160, hpr161⟩ := hr161
              have hsσ160 : σ106 = σ160 := (funext (fun k => funext (fun j => hfσ160 k j not_false))).symm
              subst hsσ160
              rcases hpr161 with ⟨rfl, hpr161⟩ | ⟨rfl, hpr161⟩
              · skip
                refine dk_if_eq (tgt := 80) (pc' := 76) hE dX11_numeral_73 (by decide) rfl (fun hc163 => absurd hc163 (by decide)) (fun hc163 => ?_)
                refine dk_iload_n (pc' := 77) hE dX11_numeral_76 rfl rfl rfl ?_
                refine dk_goto (tgt := 81) hE dX11_numeral_77 (by decide) ?_
                exact dk_iret (st := []) hE hR dX11_numeral_81 ⟨_, rfl, (fun k_ j_ h_ => by rw [hfσ106 k_ j_ (fun w_ => h_ (w_.elim (fun x0_ => Or.inl (x0_)) (fun y0_ => Or.inr (Or.inl (y0_)))))]), ⟨by omega, gi108⟩⟩
              · skip
                refine dk_if_eq (tgt := 80) (pc' := 76) hE dX11_numeral_73 (by decide) rfl (fun hc164 => ?_) (fun hc164 => absurd hc164 (by decide))
                refine dk_iload_n (pc' := 81) hE dX11_numeral_80 rfl rfl rfl ?_
                exact dk_iret (st := []) hE hR dX11_numeral_81 ⟨_, rfl, (fun k_ j_ h_ => by rw [hfσ106 k_ j_ (fun w_ => h_ (w_.elim (fun x0_ => Or.inl (x0_)) (fun y0_ => Or.inr (Or.inl (y0_)))))]), ⟨by omega, gi108⟩⟩
          · skip
            refine dk_aload_n (pc' := 45) hE dX11_numeral_44 rfl rfl rfl ?_
            refine dk_iconst (pc' := 46) hE dX11_numeral_45 (by decide) rfl ?_
            refine dk_aload_n (pc' := 47) hE dX11_numeral_46 rfl rfl rfl ?_
            refine gf_11_6 (pc' := 50) hE fl_X11_215 dX11_numeral_47 is_141 rfl (fun v165 hv165 htv165 hbv165 => ?_)
            refine dk_cV (pc' := 53) (as := [(0, 4), (0, v165)]) hE lk_X11_246 (ct_X11_fails l G hGd 4 v165) dX11_numeral_50 rfl is_141 rfl (by decide) (Nat.le_of_ble_eq_true rfl) ⟨rfl, (by omega)⟩ rfl (fun r167 σ166 hr167 hor167 => ?_)
            obtain ⟨rfl, hfσ166, hpr167⟩ := hr167
            have gi168 : NX σ σ166 := NX_f gi108 hfσ166 hpr167
            refine dk_aload_n (pc' := 54) hE dX11_numeral_53 rfl rfl rfl ?_
            refine gf_11_9 (pc' := 57) hE fl_X11_240 dX11_numeral_54 is_141 rfl (fun v169 hv169 htv169 hbv169 => ?_)
            have hq169 : v113 = v169 := (show v169 = v113 by rw [hv169, hfσ166 141 9 (by omega), hv141]).symm
            subst hq169
            clear htv169 hbv169
            refine dk_istore_n (pc' := 58) (ls' := [(4, 141), (0, a), (0, b), (0, v113)]) hE dX11_numeral_57 rfl rfl (by decide) rfl ?_
            refine dk_aload_n (pc' := 59) hE dX11_numeral_58 rfl rfl rfl ?_
            refine dk_cV (pc' := 62) (as := []) hE lk_X11_250 (ct_X11_isGood l G hGd) dX11_numeral_59 rfl is_141 rfl (by decide) (Nat.le_of_ble_eq_true rfl) rfl rfl (fun r171 σ170 hr171 hor171 => ?_)
            obtain ⟨v172, rfl, hfσ170, hpr171⟩ := hr171
            have hsσ170 : σ166 = σ170 := (funext (fun k => funext (fun j => hfσ170 k j not_false))).symm
            subst hsσ170
            rcases hpr171 with ⟨rfl, hpr171⟩ | ⟨rfl, hpr171⟩
            · skip
              refine dk_if_eq (tgt := 69) (pc' := 65) hE dX11_numeral_62 (by decide) rfl (fun hc173 => absurd hc173 (by decide)) (fun hc173 => ?_)
              refine dk_aload_n (pc' := 66) hE dX11_numeral_65 rfl rfl rfl ?_
              have hz174 : σ166 141 7 = σ 141 7 := by rw [hfσ166 141 7 (by omega), hfσ106 141 7 (by omega)]
              have hz175 : σ166 141 3 = σ 141 3 := by rw [hfσ166 141 3 (by omega), hfσ106 141 3 (by omega)]
              have hz176 : σ166 141 3 = σ 141 3 := by rw [hfσ166 141 3 (by omega), hfσ106 141 3 (by omega)]
              refine dk_cV (pc' := 69) (as := []) hE lk_X11_254 (ct_X11_next l G hGd) dX11_numeral_66 rfl is_141 rfl (by decide) (Nat.le_of_ble_eq_true rfl) ⟨rfl, ((NX_tk gi168).2.1), (by omega)⟩ rfl (fun r178 σ177 hr178 hor178 => ?_)
              obtain ⟨rfl, hfσ177, hpr178⟩ := hr178
              have gi179 : NX σ σ177 := NX_y gi168 hpr178
              refine dk_aload_n (pc' := 70) hE dX11_numeral_69 rfl rfl rfl ?_
              refine dk_cV (pc' := 73) (as := []) hE lk_X11_250 (ct_X11_isGood l G hGd) dX11_numeral_70 rfl is_141 rfl (by decide) (Nat.le_of_ble_eq_true rfl) rfl rfl (fun r181 σ180 hr181 hor181 => ?_)
              obtain ⟨v182, rfl, hfσ180, hpr181⟩ := hr181
              have hsσ180 : σ177 = σ180 := (funext (fun k => funext (fun j => hfσ180 k j not_false))).symm
              subst hsσ180
              rcases hpr181 with ⟨rfl, hpr181⟩ | ⟨rfl, hpr181⟩
              · skip
                refine dk_if_eq (tgt := 80) (pc' := 76) hE dX11_numeral_73 (by decide) rfl (fun hc183 => absurd hc183 (by decide)) (fun hc183 => ?_)
                refine dk_iload_n (pc' := 77) hE dX11_numeral_76 rfl rfl rfl ?_
                refine dk_goto (tgt := 81) hE dX11_numeral_77 (by decide) ?_
                exact dk_iret (st := []) hE hR dX11_numeral_81 ⟨_, rfl, (fun k_ j_ h_ => by rw [hfσ177 k_ j_ (fun w_ => h_ (w_.elim (fun x0_ => Or.inr (Or.inr (Or.inl (x0_)))) (fun y0_ => y0_.elim (fun x1_ => Or.inr (Or.inr (Or.inr (Or.inl (x1_))))) (fun y1_ => y1_.elim (fun x2_ => Or.inr (Or.inr (Or.inr (Or.inr (Or.inl (x2_)))))) (fun y2_ => y2_.elim (fun x3_ => Or.inr (Or.inr (Or.inr (Or.inr (Or.inr (Or.inl (x3_))))))) (fun y3_ => Or.inr (Or.inr (Or.inr (Or.inr (Or.inr (Or.inr (y3_)))))))))))), hfσ166 k_ j_ (fun w_ => h_ (w_.elim (fun x0_ => Or.inl (x0_)) (fun y0_ => Or.inr (Or.inl (y0_))))), hfσ106 k_ j_ (fun w_ => h_ (w_.elim (fun x0_ => Or.inl (x0_)) (fun y0_ => Or.inr (Or.inl (y0_)))))]), ⟨by omega, gi179⟩⟩
              · skip
                refine dk_if_eq (tgt := 80) (pc' := 76) hE dX11_numeral_73 (by decide) rfl (fun hc184 => ?_) (fun hc184 => absurd hc184 (by decide))
                refine dk_iload_n (pc' := 81) hE dX11_numeral_80 rfl rfl rfl ?_
                exact dk_iret (st := []) hE hR dX11_numeral_81 ⟨_, rfl, (fun k_ j_ h_ => by rw [hfσ177 k_ j_ (fun w_ => h_ (w_.elim (fun x0_ => Or.inr (Or.inr (Or.inl (x0_)))) (fun y0_ => y0_.elim (fun x1_ => Or.inr (Or.inr (Or.inr (Or.inl (x1_))))) (fun y1_ => y1_.elim (fun x2_ => Or.inr (Or.inr (Or.inr (Or.inr (Or.inl (x2_)))))) (fun y2_ => y2_.elim (fun x3_ => Or.inr (Or.inr (Or.inr (Or.inr (Or.inr (Or.inl (x3_))))))) (fun y3_ => Or.inr (Or.inr (Or.inr (Or.inr (Or.inr (Or.inr (y3_)))))))))))), hfσ166 k_ j_ (fun w_ => h_ (w_.elim (fun x0_ => Or.inl (x0_)) (fun y0_ => Or.inr (Or.inl (y0_))))), hfσ106 k_ j_ (fun w_ => h_ (w_.elim (fun x0_ => Or.inl (x0_)) (fun y0_ => Or.inr (Or.inl (y0_)))))]), ⟨by omega, gi179⟩⟩
            · skip
              refine dk_if_eq (tgt := 69) (pc' := 65) hE dX11_numeral_62 (by decide) rfl (fun hc185 => ?_) (fun hc185 => absurd hc185 (by decide))
              refine dk_aload_n (pc' := 70) hE dX11_numeral_69 rfl rfl rfl ?_
              refine dk_cV (pc' := 73) (as := []) hE lk_X11_250 (ct_X11_isGood l G hGd) dX11_numeral_70 rfl is_141 rfl (by decide) (Nat.le_of_ble_eq_true rfl) rfl rfl (fun r187 σ186 hr187 hor187 => ?_)
              obtain ⟨v188, rfl, hfσ186, hpr187⟩ := hr187
              have hsσ186 : σ166 = σ186 := (funext (fun k => funext (fun j => hfσ186 k j not_false))).symm
              subst hsσ186
              rcases hpr187 with ⟨rfl, hpr187⟩ | ⟨rfl, hpr187⟩
              · skip
                refine dk_if_eq (tgt := 80) (pc' := 76) hE dX11_numeral_73 (by decide) rfl (fun hc189 => absurd hc189 (by decide)) (fun hc189 => ?_)
                refine dk_iload_n (pc' := 77) hE dX11_numeral_76 rfl rfl rfl ?_
                refine dk_goto (tgt := 81) hE dX11_numeral_77 (by decide) ?_
                exact dk_iret (st := []) hE hR dX11_numeral_81 ⟨_, rfl, (fun k_ j_ h_ => by rw [hfσ166 k_ j_ (fun w_ => h_ (w_.elim (fun x0_ => Or.inl (x0_)) (fun y0_ => Or.inr (Or.inl (y0_))))), hfσ106 k_ j_ (fun w_ => h_ (w_.elim (fun x0_ => Or.inl (x0_)) (fun y0_ => Or.inr (Or.inl (y0_)))))]), ⟨by omega, gi168⟩⟩
              · skip
                refine dk_if_eq (tgt := 80) (pc' := 76) hE dX11_numeral_73 (by decide) rfl (fun hc190 => ?_) (fun hc190 => absurd hc190 (by decide))
                refine dk_iload_n (pc' := 81) hE dX11_numeral_80 rfl rfl rfl ?_
                exact dk_iret (st := []) hE hR dX11_numeral_81 ⟨_, rfl, (fun k_ j_ h_ => by rw [hfσ166 k_ j_ (fun w_ => h_ (w_.elim (fun x0_ => Or.inl (x0_)) (fun y0_ => Or.inr (Or.inl (y0_))))), hfσ106 k_ j_ (fun w_ => h_ (w_.elim (fun x0_ => Or.inl (x0_)) (fun y0_ => Or.inr (Or.inl (y0_)))))]), ⟨by omega, gi168⟩⟩
      · skip
        refine dk_if_eq (tgt := 53) (pc' := 28) hE dX11_numeral_25 (by decide) rfl (fun hc191 => ?_) (fun hc191 => absurd hc191 (by decide))
        refine dk_aload_n (pc' := 54) hE dX11_numeral_53 rfl rfl rfl ?_
        refine gf_11_9 (pc' := 57) hE fl_X11_240 dX11_numeral_54 is_141 rfl (fun v192 hv192 htv192 hbv192 => ?_)
        refine dk_istore_n (pc' := 58) (ls' := [(4, 141), (0, a), (0, b), (0, v192)]) hE dX11_numeral_57 rfl rfl (by decide) rfl ?_
        refine dk_aload_n (pc' := 59) hE dX11_numeral_58 rfl rfl rfl ?_
        refine dk_cV (pc' := 62) (as := []) hE lk_X11_250 (ct_X11_isGood l G hGd) dX11_numeral_59 rfl is_141 rfl (by decide) (Nat.le_of_ble_eq_true rfl) rfl rfl (fun r194 σ193 hr194 hor194 => ?_)
        obtain ⟨v195, rfl, hfσ193, hpr194⟩ := hr194
        have hsσ193 : σ106 = σ193 := (funext (fun k => funext (fun j => hfσ193 k j not_false))).symm
        subst hsσ193
        rcases hpr194 with ⟨rfl, hpr194⟩ | ⟨rfl, hpr194⟩
        · skip
          refine dk_if_eq (tgt := 69) (pc' := 65) hE dX11_numeral_62 (by decide) rfl (fun hc196 => absurd hc196 (by decide)) (fun hc196 => ?_)
          refine dk_aload_n (pc' := 66) hE dX11_numeral_65 rfl rfl rfl ?_
          have hz197 : σ106 141 7 = σ 141 7 := by rw [hfσ106 141 7 (by omega)]
          have hz198 : σ106 141 3 = σ 141 3 := by rw [hfσ106 141 3 (by omega)]
          have hz199 : σ106 141 3 = σ 141 3 := by rw [hfσ106 141 3 (by omega)]
          refine dk_cV (pc' := 69) (as := []) hE lk_X11_254 (ct_X11_next l G hGd) dX11_numeral_66 rfl is_141 rfl (by decide) (Nat.le_of_ble_eq_true rfl) ⟨rfl, ((NX_tk gi108).2.1), (by omega)⟩ rfl (fun r201 σ200 hr201 hor201 => ?_)
          obtain ⟨rfl, hfσ200, hpr201⟩ := hr201
          have gi202 : NX σ σ200 := NX_y gi108 hpr201
          refine dk_aload_n (pc' := 70) hE dX11_numeral_69 rfl rfl rfl ?_
          refine dk_cV (pc' := 73) (as := []) hE lk_X11_250 (ct_X11_isGood l G hGd) dX11_numeral_70 rfl is_141 rfl (by decide) (Nat.le_of_ble_eq_true rfl) rfl rfl (fun r204 σ203 hr204 hor204 => ?_)
          obtain ⟨v205, rfl, hfσ203, hpr204⟩ := hr204
          have hsσ203 : σ200 = σ203 := (funext (fun k => funext (fun j => hfσ203 k j not_false))).symm
          subst hsσ203
          rcases hpr204 with ⟨rfl, hpr204⟩ | ⟨rfl, hpr204⟩
          · skip
            refine dk_if_eq (tgt := 80) (pc' := 76) hE dX11_numeral_73 (by decide) rfl (fun hc206 => absurd hc206 (by decide)) (fun hc206 => ?_)
            refine dk_iload_n (pc' := 77) hE dX11_numeral_76 rfl rfl rfl ?_
            refine dk_goto (tgt := 81) hE dX11_numeral_77 (by decide) ?_
            exact dk_iret (st := []) hE hR dX11_numeral_81 ⟨_, rfl, (fun k_ j_ h_ => by rw [hfσ200 k_ j_ (fun w_ => h_ (w_.elim (fun x0_ => Or.inr (Or.inr (Or.inl (x0_)))) (fun y0_ => y0_.elim (fun x1_ => Or.inr (Or.inr (Or.inr (Or.inl (x1_))))) (fun y1_ => y1_.elim (fun x2_ => Or.inr (Or.inr (Or.inr (Or.inr (Or.inl (x2_)))))) (fun y2_ => y2_.elim (fun x3_ => Or.inr (Or.inr (Or.inr (Or.inr (Or.inr (Or.inl (x3_))))))) (fun y3_ => Or.inr (Or.inr (Or.inr (Or.inr (Or.inr (Or.inr (y3_)))))))))))), hfσ106 k_ j_ (fun w_ => h_ (w_.elim (fun x0_ => Or.inl (x0_)) (fun y0_ => Or.inr (Or.inl (y0_)))))]), ⟨by omega, gi202⟩⟩
          · skip
            refine dk_if_eq (tgt := 80) (pc' := 76) hE dX11_numeral_73 (by decide) rfl (fun hc207 => ?_) (fun hc207 => absurd hc207 (by decide))
            refine dk_iload_n (pc' := 81) hE dX11_numeral_80 rfl rfl rfl ?_
            exact dk_iret (st := []) hE hR dX11_numeral_81 ⟨_, rfl, (fun k_ j_ h_ => by rw [hfσ200 k_ j_ (fun w_ => h_ (w_.elim (fun x0_ => Or.inr (Or.inr (Or.inl (x0_)))) (fun y0_ => y0_.elim (fun x1_ => Or.inr (Or.inr (Or.inr (Or.inl (x1_))))) (fun y1_ => y1_.elim (fun x2_ => Or.inr (Or.inr (Or.inr (Or.inr (Or.inl (x2_)))))) (fun y2_ => y2_.elim (fun x3_ => Or.inr (Or.inr (Or.inr (Or.inr (Or.inr (Or.inl (x3_))))))) (fun y3_ => Or.inr (Or.inr (Or.inr (Or.inr (Or.inr (Or.inr (y3_)))))))))))), hfσ106 k_ j_ (fun w_ => h_ (w_.elim (fun x0_ => Or.inl (x0_)) (fun y0_ => Or.inr (Or.inl (y0_)))))]), ⟨by omega, gi202⟩⟩
        · skip
          refine dk_if_eq (tgt := 69) (pc' := 65) hE dX11_numeral_62 (by decide) rfl (fun hc208 => ?_) (fun hc208 => absurd hc208 (by decide))
          refine dk_aload_n (pc' := 70) hE dX11_numeral_69 rfl rfl rfl ?_
          refine dk_cV (pc' := 73) (as := []) hE lk_X11_250 (ct_X11_isGood l G hGd) dX11_numeral_70 rfl is_141 rfl (by decide) (Nat.le_of_ble_eq_true rfl) rfl rfl (fun r210 σ209 hr210 hor210 => ?_)
          obtain ⟨v211, rfl, hfσ209, hpr210⟩ := hr210
          have hsσ209 : σ106 = σ209 := (funext (fun k => funext (fun j => hfσ209 k j not_false))).symm
          subst hsσ209
          rcases hpr210 with ⟨rfl, hpr210⟩ | ⟨rfl, hpr210⟩
          · skip
            refine dk_if_eq (tgt := 80) (pc' := 76) hE dX11_numeral_73 (by decide) rfl (fun hc212 => absurd hc212 (by decide)) (fun hc212 => ?_)
            refine dk_iload_n (pc' := 77) hE dX11_numeral_76 rfl rfl rfl ?_
            refine dk_goto (tgt := 81) hE dX11_numeral_77 (by decide) ?_
            exact dk_iret (st := []) hE hR dX11_numeral_81 ⟨_, rfl, (fun k_ j_ h_ => by rw [hfσ106 k_ j_ (fun w_ => h_ (w_.elim (fun x0_ => Or.inl (x0_)) (fun y0_ => Or.inr (Or.inl (y0_)))))]), ⟨by omega, gi108⟩⟩
          · skip
            refine dk_if_eq (tgt := 80) (pc' := 76) hE dX11_numeral_73 (by decide) rfl (fun hc213 => ?_) (fun hc213 => absurd hc213 (by decide))
            refine dk_iload_n (pc' := 81) hE dX11_numeral_80 rfl rfl rfl ?_
            exact dk_iret (st := []) hE hR dX11_numeral_81 ⟨_, rfl, (fun k_ j_ h_ => by rw [hfσ106 k_ j_ (fun w_ => h_ (w_.elim (fun x0_ => Or.inl (x0_)) (fun y0_ => Or.inr (Or.inl (y0_)))))]), ⟨by omega, gi108⟩⟩
  · skip
    refine dk_if_ne (tgt := 9) (pc' := 7) hE dX11_numeral_4 (by decide) rfl (fun hc214 => absurd hc214 (by decide)) (fun hc214 => ?_)
    refine dk_iload_n (pc' := 8) hE dX11_numeral_7 rfl rfl rfl ?_
    exact dk_iret (st := []) hE hR dX11_numeral_8 ⟨_, rfl, (fun k_ j_ h_ => rfl), ⟨by omega, (NX_rf hT)⟩⟩
set_option maxHeartbeats 4000000 in
set_option maxRecDepth 20000 in
theorem ct_X11_takeTape (l : Launch) (G : dkG) (hGd : dk_Gd G) : dk_Ct l G dk_Ty yX11_takeTape cX11_takeTape 2 (none) 1 190 190 (fun av σ => av = [(4, 141)]) (fun _ σ r_ σ' => r_ = none ∧ (∀ k_ j_ : Int, ¬ ((k_ = 141 ∧ j_ = 2) ∨ (k_ = 141 ∧ j_ = 3) ∨ (k_ = 141 ∧ j_ = 4) ∨ (k_ = 141 ∧ j_ = 5) ∨ (k_ = 141 ∧ j_ = 7) ∨ k_ = 143) → σ' k_ j_ = σ k_ j_) ∧ (σ' 141 3 = σ 141 2 ∧ σ' 141 7 = 0 ∧ σ' 141 4 = 0 ∧ σ 141 2 ≤ 1400 ∧ 0 ≤ σ 141 2)) := by
  refine dk_enter hGd (by decide) (fun av σ hpre hok => ?_)
  subst hpre
  refine ⟨Nat.le_of_ble_eq_true rfl, fun E hE hR _ => ?_⟩
  show dk_PJ E 0 [(4, 141), (9, 0)] [] 190 σ
  refine dk_aload_n (pc' := 1) hE dX11_takeTape_0 rfl rfl rfl ?_
  refine dk_iconst (pc' := 2) hE dX11_takeTape_1 (by decide) rfl ?_
  refine pf_11_4 (pc' := 5) hE fl_X11_167 dX11_takeTape_2 is_141 (by omega) rfl (fun σ1 eσ1 => ?_)
  refine dk_aload_n (pc' := 6) hE dX11_takeTape_5 rfl rfl rfl ?_
  refine dk_iconst (pc' := 7) hE dX11_takeTape_6 (by decide) rfl ?_
  refine pf_11_5 (pc' := 10) hE fl_X11_16 dX11_takeTape_7 is_141 trivial rfl (fun σ2 eσ2 => ?_)
  refine dk_aload_n (pc' := 11) hE dX11_takeTape_10 rfl rfl rfl ?_
  refine dk_aload_n (pc' := 12) hE dX11_takeTape_11 rfl rfl rfl ?_
  refine gf_11_2 (pc' := 15) hE fl_X11_260 dX11_takeTape_12 is_141 rfl (fun v3 hv3 htv3 hbv3 => ?_)
  have hq3 : v3 = σ 141 2 := by rw [hv3, eσ2, dk_up_n (show ¬ (141 = 141 ∧ 2 = 5) by omega), eσ1, dk_up_n (show ¬ (141 = 141 ∧ 2 = 4) by omega)]
  refine pf_11_3 (pc' := 18) hE fl_X11_164 dX11_takeTape_15 is_141 (by omega) rfl (fun σ4 eσ4 => ?_)
  refine dk_iconst (pc' := 19) hE dX11_takeTape_18 (by decide) rfl ?_
  refine dk_istore_n (pc' := 20) (ls' := [(4, 141), (0, 0)]) hE dX11_takeTape_19 rfl rfl (by decide) rfl ?_
  have lp20 : ∀ (N_ : Nat) (i : Int) (σ20c : dkS), (2147483648 - i).toNat < N_ → ((∀ k_ j_ : Int, ¬ (k_ = 143) → σ20c k_ j_ = σ4 k_ j_)) → (0 ≤ i) → dk_PJ E 20 [(4, 141), (0, i)] [] 190 σ20c := by
    intro N20
    induction N20 with
    | zero => intro i σ20c hm; exact absurd hm (Nat.not_lt_zero _)
    | succ N20 ih20 =>
      intro i σ20c hm20 hF20 hi0
      refine dk_iload_n (pc' := 21) hE dX11_takeTape_20 rfl rfl rfl ?_
      refine dk_aload_n (pc' := 22) hE dX11_takeTape_21 rfl rfl rfl ?_
      refine gf_11_3 (pc' := 25) hE fl_X11_164 dX11_takeTape_22 is_141 rfl (fun v5 hv5 htv5 hbv5 => ?_)
      have hq5 : v3 = v5 := (show v5 = v3 by rw [hv5, hF20 141 3 (by omega), eσ4, dk_up_s]).symm
      subst hq5
      clear htv5 hbv5
      refine dk_icmp_ge (tgt := 46) (pc' := 28) hE dX11_takeTape_25 (by decide) rfl (fun hc6 => ?_) (fun hc6 => ?_)
      · skip
        refine dk_aload_n (pc' := 47) hE dX11_takeTape_46 rfl rfl rfl ?_
        refine dk_iconst (pc' := 48) hE dX11_takeTape_47 (by decide) rfl ?_
        refine pf_11_2 (pc' := 51) hE fl_X11_260 dX11_takeTape_48 is_141 (by omega) rfl (fun σ7 eσ7 => ?_)
        refine dk_aload_n (pc' := 52) hE dX11_takeTape_51 rfl rfl rfl ?_
        refine dk_iconst (pc' := 53) hE dX11_takeTape_52 (by decide) rfl ?_
        refine pf_11_7 (pc' := 56) hE fl_X11_212 dX11_takeTape_53 is_141 (by omega) rfl (fun σ8 eσ8 => ?_)
        have hz9 : σ8 141 3 = v3 := by rw [eσ8, dk_up_n (show ¬ (141 = 141 ∧ 3 = 7) by omega), eσ7, dk_up_n (show ¬ (141 = 141 ∧ 3 = 2) by omega), hv5]
        have hz10 : σ8 141 4 = 0 := by rw [eσ8, dk_up_n (show ¬ (141 = 141 ∧ 4 = 7) by omega), eσ7, dk_up_n (show ¬ (141 = 141 ∧ 4 = 2) by omega), hF20 141 4 (by omega), eσ4, dk_up_n (show ¬ (141 = 141 ∧ 4 = 3) by omega), eσ2, dk_up_n (show ¬ (141 = 141 ∧ 4 = 5) by omega), eσ1, dk_up_s]
        have hz11 : σ8 141 7 = 0 := by rw [eσ8, dk_up_s]
        have hz12 : σ8 141 2 = 0 := by rw [eσ8, dk_up_n (show ¬ (141 = 141 ∧ 2 = 7) by omega), eσ7, dk_up_s]
        exact dk_vret (st := []) hE hR dX11_takeTape_56 ⟨rfl, (fun k_ j_ h_ => by rw [eσ8, dk_up_n (show ¬ (k_ = 141 ∧ j_ = 7) from fun q_ => h_ (Or.inr (Or.inr (Or.inr (Or.inr (Or.inl (q_))))))), eσ7, dk_up_n (show ¬ (k_ = 141 ∧ j_ = 2) from fun q_ => h_ (Or.inl (q_))), hF20 k_ j_ (fun w_ => h_ (Or.inr (Or.inr (Or.inr (Or.inr (Or.inr (w_))))))), eσ4, dk_up_n (show ¬ (k_ = 141 ∧ j_ = 3) from fun q_ => h_ (Or.inr (Or.inl (q_)))), eσ2, dk_up_n (show ¬ (k_ = 141 ∧ j_ = 5) from fun q_ => h_ (Or.inr (Or.inr (Or.inr (Or.inl (q_)))))), eσ1, dk_up_n (show ¬ (k_ = 141 ∧ j_ = 4) from fun q_ => h_ (Or.inr (Or.inr (Or.inl (q_)))))]), by omega⟩
      · skip
        refine dk_aload_n (pc' := 29) hE dX11_takeTape_28 rfl rfl rfl ?_
        refine gf_11_1 (pc' := 32) (w := 143) hE fl_X11_13 dX11_takeTape_29 is_141 rfl rfl ?_
        refine dk_iload_n (pc' := 33) hE dX11_takeTape_32 rfl rfl rfl ?_
        refine dk_aload_n (pc' := 34) hE dX11_takeTape_33 rfl rfl rfl ?_
        refine gf_11_0 (pc' := 37) (w := 142) hE fl_X11_7 dX11_takeTape_34 is_141 rfl rfl ?_
        refine dk_iload_n (pc' := 38) hE dX11_takeTape_37 rfl rfl rfl ?_
        refine ga_70 (pc' := 39) hE dX11_takeTape_38 is_142 (by omega) rfl (fun v13 hv13 htv13 hbv13 => ?_)
        refine pa_71 (pc' := 40) hE dX11_takeTape_39 is_143 (by omega) (by omega) trivial rfl (fun σ14 eσ14 => ?_)
        obtain ⟨v15, hv15⟩ : ∃ z : Int, z = i + 1 := ⟨_, rfl⟩
        refine dk_iinc (pc' := 43) (ls' := [(4, 141), (0, v15)]) hE dX11_takeTape_40 rfl hv15.symm (by omega) rfl (by decide) rfl ?_
        refine dk_goto (tgt := 20) hE dX11_takeTape_43 (by decide) ?_
        exact ih20 v15 σ14 (by omega) (fun k_ j_ h_ => by rw [eσ14, dk_up_n (show ¬ (k_ = 143 ∧ j_ = i) from fun q_ => h_ (q_.1)), hF20 k_ j_ (fun w_ => h_ (w_))]) (by omega)
  exact lp20 _ 0 σ4 (Nat.lt_succ_self _) (fun k_ j_ h_ => rfl) (by omega)
set_option maxHeartbeats 4000000 in
set_option maxRecDepth 20000 in
theorem ct_X11_isFull (l : Launch) (G : dkG) (hGd : dk_Gd G) (a b r w q : Int) : dk_Ct l G dk_Ty yX11_isFull cX11_isFull 3 (some .boolean) 2 190 190 (fun av σ => av = [(4, 141), (0, a), (0, b)] ∧ (r = σ 141 28) ∧ (0 ≤ r ∧ r ≤ 1) ∧ (w = σ 145 r) ∧ (q = σ 146 r) ∧ (0 ≤ w ∧ w ≤ 4) ∧ (0 ≤ q ∧ q ≤ 12)) (fun _ σ r_ σ' => ∃ z : Int, r_ = some (0, z) ∧ (∀ k_ j_ : Int, ¬ (False) → σ' k_ j_ = σ k_ j_) ∧ (z = 1 ∧ (0 ≤ r) ∨ z = 0 ∧ (a = 0 → b ≠ 0 → w ≠ 4) ∧ (a = 0 → b = 0 → w ≠ 0 ∧ q ≠ 12 ∧ σ 156 (4 * r + w - 1) ≠ 8))) := by
  refine dk_enter hGd (by decide) (fun av σ hpre hok => ?_)
  obtain ⟨rfl, hr, hr1, hw, hq, hw4, hq4⟩ := hpre
  refine ⟨Nat.le_of_ble_eq_true rfl, fun E hE hR _ => ?_⟩
  have hi_a : dk_i32 a := dk_oki (hok _ (by simp))
  have hi_b : dk_i32 b := dk_oki (hok _ (by simp))
  show dk_PJ E 0 [(4, 141), (0, a), (0, b)] [] 190 σ
  refine dk_iload_n (pc' := 1) hE dX11_isFull_0 rfl rfl rfl ?_
  refine dk_if_eq (tgt := 14) (pc' := 4) hE dX11_isFull_1 (by decide) rfl (fun hc1 => ?_) (fun hc1 => ?_)
  · skip
    refine dk_iload_n (pc' := 15) hE dX11_isFull_14 rfl rfl rfl ?_
    refine dk_if_eq (tgt := 37) (pc' := 18) hE dX11_isFull_15 (by decide) rfl (fun hc2 => ?_) (fun hc2 => ?_)
    · skip
      refine dk_aload_n (pc' := 38) hE dX11_isFull_37 rfl rfl rfl ?_
      refine dk_ldc2 (pc' := 41) hE dX11_isFull_38 cs_X11_176 (by decide) rfl ?_
      refine dk_cV (pc' := 44) (as := [(3, 1885434484)]) hE lk_X11_281 (ct_X11_isWord l G hGd 1885434484) dX11_isFull_41 rfl is_141 rfl (by decide) (Nat.le_of_ble_eq_true rfl) rfl rfl (fun r4 σ3 hr4 hor4 => ?_)
      obtain ⟨v5, rfl, hfσ3, hpr4⟩ := hr4
      have hsσ3 : σ = σ3 := (funext (fun k => funext (fun j => hfσ3 k j not_false))).symm
      subst hsσ3
      rcases hpr4 with ⟨rfl, hpr4⟩ | rfl
      · skip
        refine dk_if_ne (tgt := 57) (pc' := 47) hE dX11_isFull_44 (by decide) rfl (fun hc6 => ?_) (fun hc6 => absurd hc6 (by decide))
        refine dk_aload_n (pc' := 58) hE dX11_isFull_57 rfl rfl rfl ?_
        refine gf_11_12 (pc' := 61) (w := 145) hE fl_X11_24 dX11_isFull_58 is_141 rfl rfl ?_
        refine dk_aload_n (pc' := 62) hE dX11_isFull_61 rfl rfl rfl ?_
        refine gf_11_28 (pc' := 65) hE fl_X11_269 dX11_isFull_62 is_141 rfl (fun v7 hv7 htv7 hbv7 => ?_)
        have hq7 : r = v7 := (show v7 = r by rw [hv7, hr]).symm
        subst hq7
        clear htv7 hbv7
        refine ga_73 (pc' := 66) hE dX11_isFull_65 is_145 (by omega) rfl (fun v8 hv8 htv8 hbv8 => ?_)
        have hq8 : w = v8 := (show v8 = w by rw [hv8, hw]).symm
        subst hq8
        clear htv8 hbv8
        refine dk_if_eq (tgt := 111) (pc' := 69) hE dX11_isFull_66 (by decide) rfl (fun hc9 => ?_) (fun hc9 => ?_)
        · skip
          refine dk_iconst (pc' := 112) hE dX11_isFull_111 (by decide) rfl ?_
          refine dk_goto (tgt := 116) hE dX11_isFull_112 (by decide) ?_
          exact dk_zret (st := []) hE hR dX11_isFull_116 (by omega) ⟨_, rfl, (fun k_ j_ h_ => rfl), by omega⟩
        · skip
          refine dk_aload_n (pc' := 70) hE dX11_isFull_69 rfl rfl rfl ?_
          refine gf_11_13 (pc' := 73) (w := 146) hE fl_X11_27 dX11_isFull_70 is_141 rfl rfl ?_
          refine dk_aload_n (pc' := 74) hE dX11_isFull_73 rfl rfl rfl ?_
          refine gf_11_28 (pc' := 77) hE fl_X11_269 dX11_isFull_74 is_141 rfl (fun v10 hv10 htv10 hbv10 => ?_)
          have hq10 : r = v10 := (show v10 = r by rw [hv10, hv7]).symm
          subst hq10
          clear htv10 hbv10
          refine ga_74 (pc' := 78) hE dX11_isFull_77 is_146 (by omega) rfl (fun v11 hv11 htv11 hbv11 => ?_)
          have hq11 : q = v11 := (show v11 = q by rw [hv11, hq]).symm
          subst hq11
          clear htv11 hbv11
          refine dk_bipush (pc' := 80) hE dX11_isFull_78 (by decide) rfl ?_
          refine dk_icmp_eq (tgt := 111) (pc' := 83) hE dX11_isFull_80 (by decide) rfl (fun hc12 => ?_) (fun hc12 => ?_)
          · skip
            refine dk_iconst (pc' := 112) hE dX11_isFull_111 (by decide) rfl ?_
            refine dk_goto (tgt := 116) hE dX11_isFull_112 (by decide) ?_
            exact dk_zret (st := []) hE hR dX11_isFull_116 (by omega) ⟨_, rfl, (fun k_ j_ h_ => rfl), by omega⟩
          · skip
            refine dk_aload_n (pc' := 84) hE dX11_isFull_83 rfl rfl rfl ?_
            refine gf_11_23 (pc' := 87) (w := 156) hE fl_X11_57 dX11_isFull_84 is_141 rfl rfl ?_
            refine dk_iconst (pc' := 88) hE dX11_isFull_87 (by decide) rfl ?_
            refine dk_aload_n (pc' := 89) hE dX11_isFull_88 rfl rfl rfl ?_
            refine gf_11_28 (pc' := 92) hE fl_X11_269 dX11_isFull_89 is_141 rfl (fun v13 hv13 htv13 hbv13 => ?_)
            have hq13 : r = v13 := (show v13 = r by rw [hv13, hv10]).symm
            subst hq13
            clear htv13 hbv13
            obtain ⟨v14, hv14⟩ : ∃ z : Int, z = 4 * r := ⟨_, rfl⟩
            refine dk_imul (pc' := 93) hE dX11_isFull_92 hv14.symm (by omega) rfl ?_
            refine dk_aload_n (pc' := 94) hE dX11_isFull_93 rfl rfl rfl ?_
            refine gf_11_12 (pc' := 97) (w := 145) hE fl_X11_24 dX11_isFull_94 is_141 rfl rfl ?_
            refine dk_aload_n (pc' := 98) hE dX11_isFull_97 rfl rfl rfl ?_
            refine gf_11_28 (pc' := 101) hE fl_X11_269 dX11_isFull_98 is_141 rfl (fun v15 hv15 htv15 hbv15 => ?_)
            have hq15 : r = v15 := (show v15 = r by rw [hv15, hv13]).symm
            subst hq15
            clear htv15 hbv15
            refine ga_73 (pc' := 102) hE dX11_isFull_101 is_145 (by omega) rfl (fun v16 hv16 htv16 hbv16 => ?_)
            have hq16 : w = v16 := (show v16 = w by rw [hv16, hv8]).symm
            subst hq16
            clear htv16 hbv16
            obtain ⟨v17, hv17⟩ : ∃ z : Int, z = v14 + w := ⟨_, rfl⟩
            refine dk_iadd (pc' := 103) hE dX11_isFull_102 hv17.symm (by omega) rfl ?_
            refine dk_iconst (pc' := 104) hE dX11_isFull_103 (by decide) rfl ?_
            obtain ⟨v18, hv18⟩ : ∃ z : Int, z = v17 - 1 := ⟨_, rfl⟩
            refine dk_isub (pc' := 105) hE dX11_isFull_104 hv18.symm (by omega) rfl ?_
            refine ga_84 (pc' := 106) hE dX11_isFull_105 is_156 (by omega) rfl (fun v19 hv19 htv19 hbv19 => ?_)
            have hX : σ 156 (4 * r + w - 1) = v19 := by rw [show 4 * r + w - 1 = v18 by omega]; exact hv19.symm
            refine dk_bipush (pc' := 108) hE dX11_isFull_106 (by decide) rfl ?_
            refine dk_icmp_ne (tgt := 115) (pc' := 111) hE dX11_isFull_108 (by decide) rfl (fun hc20 => ?_) (fun hc20 => ?_)
            · skip
              refine dk_iconst (pc' := 116) hE dX11_isFull_115 (by decide) rfl ?_
              exact dk_zret (st := []) hE hR dX11_isFull_116 (by omega) ⟨_, rfl, (fun k_ j_ h_ => rfl), by omega⟩
            · skip
              refine dk_iconst (pc' := 112) hE dX11_isFull_111 (by decide) rfl ?_
              refine dk_goto (tgt := 116) hE dX11_isFull_112 (by decide) ?_
              exact dk_zret (st := []) hE hR dX11_isFull_116 (by omega) ⟨_, rfl, (fun k_ j_ h_ => rfl), by omega⟩
      · skip
        refine dk_if_ne (tgt := 57) (pc' := 47) hE dX11_isFull_44 (by decide) rfl (fun hc21 => absurd hc21 (by decide)) (fun hc21 => ?_)
        refine dk_aload_n (pc' := 48) hE dX11_isFull_47 rfl rfl rfl ?_
        refine dk_ldc2 (pc' := 51) hE dX11_isFull_48 cs_X11_178 (by decide) rfl ?_
        refine dk_cV (pc' := 54) (as := [(3, 1852798053)]) hE lk_X11_281 (ct_X11_isWord l G hGd 1852798053) dX11_isFull_51 rfl is_141 rfl (by decide) (Nat.le_of_ble_eq_true rfl) rfl rfl (fun r23 σ22 hr23 hor23 => ?_)
        obtain ⟨v24, rfl, hfσ22, hpr23⟩ := hr23
        have hsσ22 : σ = σ22 := (funext (fun k => funext (fun j => hfσ22 k j not_false))).symm
        subst hsσ22
        rcases hpr23 with ⟨rfl, hpr23⟩ | rfl
        · skip
          refine dk_if_eq (tgt := 111) (pc' := 57) hE dX11_isFull_54 (by decide) rfl (fun hc25 => absurd hc25 (by decide)) (fun hc25 => ?_)
          refine dk_aload_n (pc' := 58) hE dX11_isFull_57 rfl rfl rfl ?_
          refine gf_11_12 (pc' := 61) (w := 145) hE fl_X11_24 dX11_isFull_58 is_141 rfl rfl ?_
          refine dk_aload_n (pc' := 62) hE dX11_isFull_61 rfl rfl rfl ?_
          refine gf_11_28 (pc' := 65) hE fl_X11_269 dX11_isFull_62 is_141 rfl (fun v26 hv26 htv26 hbv26 => ?_)
          have hq26 : r = v26 := (show v26 = r by rw [hv26, hr]).symm
          subst hq26
          clear htv26 hbv26
          refine ga_73 (pc' := 66) hE dX11_isFull_65 is_145 (by omega) rfl (fun v27 hv27 htv27 hbv27 => ?_)
          have hq27 : w = v27 := (show v27 = w by rw [hv27, hw]).symm
          subst hq27
          clear htv27 hbv27
          refine dk_if_eq (tgt := 111) (pc' := 69) hE dX11_isFull_66 (by decide) rfl (fun hc28 => ?_) (fun hc28 => ?_)
          · skip
            refine dk_iconst (pc' := 112) hE dX11_isFull_111 (by decide) rfl ?_
            refine dk_goto (tgt := 116) hE dX11_isFull_112 (by decide) ?_
            exact dk_zret (st := []) hE hR dX11_isFull_116 (by omega) ⟨_, rfl, (fun k_ j_ h_ => rfl), by omega⟩
          · skip
            refine dk_aload_n (pc' := 70) hE dX11_isFull_69 rfl rfl rfl ?_
            refine gf_11_13 (pc' := 73) (w := 146) hE fl_X11_27 dX11_isFull_70 is_141 rfl rfl ?_
            refine dk_aload_n (pc' := 74) hE dX11_isFull_73 rfl rfl rfl ?_
            refine gf_11_28 (pc' := 77) hE fl_X11_269 dX11_isFull_74 is_141 rfl (fun v29 hv29 htv29 hbv29 => ?_)
            have hq29 : r = v29 := (show v29 = r by rw [hv29, hv26]).symm
            subst hq29
            clear htv29 hbv29
            refine ga_74 (pc' := 78) hE dX11_isFull_77 is_146 (by omega) rfl (fun v30 hv30 htv30 hbv30 => ?_)
            have hq30 : q = v30 := (show v30 = q by rw [hv30, hq]).symm
            subst hq30
            clear htv30 hbv30
            refine dk_bipush (pc' := 80) hE dX11_isFull_78 (by decide) rfl ?_
            refine dk_icmp_eq (tgt := 111) (pc' := 83) hE dX11_isFull_80 (by decide) rfl (fun hc31 => ?_) (fun hc31 => ?_)
            · skip
              refine dk_iconst (pc' := 112) hE dX11_isFull_111 (by decide) rfl ?_
              refine dk_goto (tgt := 116) hE dX11_isFull_112 (by decide) ?_
              exact dk_zret (st := []) hE hR dX11_isFull_116 (by omega) ⟨_, rfl, (fun k_ j_ h_ => rfl), by omega⟩
            · skip
              refine dk_aload_n (pc' := 84) hE dX11_isFull_83 rfl rfl rfl ?_
              refine gf_11_23 (pc' := 87) (w := 156) hE fl_X11_57 dX11_isFull_84 is_141 rfl rfl ?_
              refine dk_iconst (pc' := 88) hE dX11_isFull_87 (by decide) rfl ?_
              refine dk_aload_n (pc' := 89) hE dX11_isFull_88 rfl rfl rfl ?_
              refine gf_11_28 (pc' := 92) hE fl_X11_269 dX11_isFull_89 is_141 rfl (fun v32 hv32 htv32 hbv32 => ?_)
              have hq32 : r = v32 := (show v32 = r by rw [hv32, hv29]).symm
              subst hq32
              clear htv32 hbv32
              obtain ⟨v33, hv33⟩ : ∃ z : Int, z = 4 * r := ⟨_, rfl⟩
              refine dk_imul (pc' := 93) hE dX11_isFull_92 hv33.symm (by omega) rfl ?_
              refine dk_aload_n (pc' := 94) hE dX11_isFull_93 rfl rfl rfl ?_
              refine gf_11_12 (pc' := 97) (w := 145) hE fl_X11_24 dX11_isFull_94 is_141 rfl rfl ?_
              refine dk_aload_n (pc' := 98) hE dX11_isFull_97 rfl rfl rfl ?_
              refine gf_11_28 (pc' := 101) hE fl_X11_269 dX11_isFull_98 is_141 rfl (fun v34 hv34 htv34 hbv34 => ?_)
              have hq34 : r = v34 := (show v34 = r by rw [hv34, hv32]).symm
              subst hq34
              clear htv34 hbv34
              refine ga_73 (pc' := 102) hE dX11_isFull_101 is_145 (by omega) rfl (fun v35 hv35 htv35 hbv35 => ?_)
              have hq35 : w = v35 := (show v35 = w by rw [hv35, hv27]).symm
              subst hq35
              clear htv35 hbv35
              obtain ⟨v36, hv36⟩ : ∃ z : Int, z = v33 + w := ⟨_, rfl⟩
              refine dk_iadd (pc' := 103) hE dX11_isFull_102 hv36.symm (by omega) rfl ?_
              refine dk_iconst (pc' := 104) hE dX11_isFull_103 (by decide) rfl ?_
              obtain ⟨v37, hv37⟩ : ∃ z : Int, z = v36 - 1 := ⟨_, rfl⟩
              refine dk_isub (pc' := 105) hE dX11_isFull_104 hv37.symm (by omega) rfl ?_
              refine ga_84 (pc' := 106) hE dX11_isFull_105 is_156 (by omega) rfl (fun v38 hv38 htv38 hbv38 => ?_)
              have hX : σ 156 (4 * r + w - 1) = v38 := by rw [show 4 * r + w - 1 = v37 by omega]; exact hv38.symm
              refine dk_bipush (pc' := 108) hE dX11_isFull_106 (by decide) rfl ?_
              refine dk_icmp_ne (tgt := 115) (pc' := 111) hE dX11_isFull_108 (by decide) rfl (fun hc39 => ?_) (fun hc39 => ?_)
              · skip
                refine dk_iconst (pc' := 116) hE dX11_isFull_115 (by decide) rfl ?_
                exact dk_zret (st := []) hE hR dX11_isFull_116 (by omega) ⟨_, rfl, (fun k_ j_ h_ => rfl), by omega⟩
              · skip
                refine dk_iconst (pc' := 112) hE dX11_isFull_111 (by decide) rfl ?_
                refine dk_goto (tgt := 116) hE dX11_isFull_112 (by decide) ?_
                exact dk_zret (st := []) hE hR dX11_isFull_116 (by omega) ⟨_, rfl, (fun k_ j_ h_ => rfl), by omega⟩
        · skip
          refine dk_if_eq (tgt := 111) (pc' := 57) hE dX11_isFull_54 (by decide) rfl (fun hc40 => ?_) (fun hc40 => absurd hc40 (by decide))
          refine dk_iconst (pc' := 112) hE dX11_isFull_111 (by decide) rfl ?_
          refine dk_goto (tgt := 116) hE dX11_isFull_112 (by decide) ?_
          exact dk_zret (st := []) hE hR dX11_isFull_116 (by omega) ⟨_, rfl, (fun k_ j_ h_ => rfl), by omega⟩
    · skip
      refine dk_aload_n (pc' := 19) hE dX11_isFull_18 rfl rfl rfl ?_
      refine gf_11_12 (pc' := 22) (w := 145) hE fl_X11_24 dX11_isFull_19 is_141 rfl rfl ?_
      refine dk_aload_n (pc' := 23) hE dX11_isFull_22 rfl rfl rfl ?_
      refine gf_11_28 (pc' := 26) hE fl_X11_269 dX11_isFull_23 is_141 rfl (fun v41 hv41 htv41 hbv41 => ?_)
      have hq41 : r = v41 := (show v41 = r by rw [hv41, hr]).symm
      subst hq41
      clear htv41 hbv41
      refine ga_73 (pc' := 27) hE dX11_isFull_26 is_145 (by omega) rfl (fun v42 hv42 htv42 hbv42 => ?_)
      have hq42 : w = v42 := (show v42 = w by rw [hv42, hw]).symm
      subst hq42
      clear htv42 hbv42
      refine dk_iconst (pc' := 28) hE dX11_isFull_27 (by decide) rfl ?_
      refine dk_icmp_ne (tgt := 35) (pc' := 31) hE dX11_isFull_28 (by decide) rfl (fun hc43 => ?_) (fun hc43 => ?_)
      · skip
        refine dk_iconst (pc' := 36) hE dX11_isFull_35 (by decide) rfl ?_
        exact dk_zret (st := []) hE hR dX11_isFull_36 (by omega) ⟨_, rfl, (fun k_ j_ h_ => rfl), by omega⟩
      · skip
        refine dk_iconst (pc' := 32) hE dX11_isFull_31 (by decide) rfl ?_
        refine dk_goto (tgt := 36) hE dX11_isFull_32 (by decide) ?_
        exact dk_zret (st := []) hE hR dX11_isFull_36 (by omega) ⟨_, rfl, (fun k_ j_ h_ => rfl), by omega⟩
  · skip
    refine dk_aload_n (pc' := 5) hE dX11_isFull_4 rfl rfl rfl ?_
    refine gf_11_25 (pc' := 8) (w := 158) hE fl_X11_64 dX11_isFull_5 is_141 rfl rfl ?_
    refine dk_aload_n (pc' := 9) hE dX11_isFull_8 rfl rfl rfl ?_
    refine gf_11_28 (pc' := 12) hE fl_X11_269 dX11_isFull_9 is_141 rfl (fun v44 hv44 htv44 hbv44 => ?_)
    have hq44 : r = v44 := (show v44 = r by rw [hv44, hr]).symm
    subst hq44
    clear htv44 hbv44
    refine ga_86 (pc' := 13) hE dX11_isFull_12 is_158 (by omega) rfl (fun v45 hv45 htv45 hbv45 => ?_)
    exact dk_zret (st := []) hE hR dX11_isFull_13 (by omega) ⟨_, rfl, (fun k_ j_ h_ => rfl), by omega⟩
set_option maxHeartbeats 4000000 in
set_option maxRecDepth 20000 in
theorem ct_X11_readFloor (l : Launch) (G : dkG) (hGd : dk_Gd G) : dk_Ct l G dk_Ty yX11_readFloor cX11_readFloor 1 (none) 4 190 190 (fun av σ => av = [(4, 141)] ∧ (TK σ) ∧ (σ 141 3 ≤ 1400)) (fun _ σ r_ σ' => r_ = none ∧ (∀ k_ j_ : Int, ¬ ((k_ = 141 ∧ j_ = 4) ∨ (k_ = 141 ∧ j_ = 5) ∨ (k_ = 141 ∧ j_ = 6) ∨ (k_ = 141 ∧ j_ = 7) ∨ (k_ = 141 ∧ j_ = 8) ∨ (k_ = 141 ∧ j_ = 9) ∨ (k_ = 141 ∧ j_ = 10) ∨ (148 ≤ k_ ∧ k_ ≤ 150) ∨ k_ = 158) → σ' k_ j_ = σ k_ j_) ∧ (NX σ σ')) := by
  refine dk_enter hGd (by decide) (fun av σ hpre hok => ?_)
  obtain ⟨rfl, hT, hS⟩ := hpre
  refine ⟨Nat.le_of_ble_eq_true rfl, fun E hE hR _ => ?_⟩
  show dk_PJ E 0 [(4, 141)] [] 190 σ
  refine dk_aload_n (pc' := 1) hE dX11_readFloor_0 rfl rfl rfl ?_
  refine gf_11_15 (pc' := 4) (w := 148) hE fl_X11_33 dX11_readFloor_1 is_141 rfl rfl ?_
  refine dk_aload_n (pc' := 5) hE dX11_readFloor_4 rfl rfl rfl ?_
  refine gf_11_28 (pc' := 8) hE fl_X11_269 dX11_readFloor_5 is_141 rfl (fun v1 hv1 htv1 hbv1 => ?_)
  refine dk_aload_n (pc' := 9) hE dX11_readFloor_8 rfl rfl rfl ?_
  refine dk_iconst (pc' := 10) hE dX11_readFloor_9 (by decide) rfl ?_
  refine dk_bipush (pc' := 12) hE dX11_readFloor_10 (by decide) rfl ?_
  refine dk_cV (pc' := 15) (as := [(0, 1), (0, 20)]) hE lk_X11_304 (ct_X11_numeral l G hGd 1 20) dX11_readFloor_12 rfl is_141 rfl (by decide) (Nat.le_of_ble_eq_true rfl) ⟨rfl, (NX_tk (NX_rf hT)), (by omega), (by omega)⟩ rfl (fun r3 σ2 hr3 hor3 => ?_)
  obtain ⟨v4, rfl, hfσ2, hpr3⟩ := hr3
  have gi5 : NX σ σ2 := NX_tr (NX_rf hT) hpr3.2
  refine pa_76 (pc' := 16) hE dX11_readFloor_15 is_148 (by omega) trivial rfl (fun σ6 eσ6 => ?_)
  refine dk_aload_n (pc' := 17) hE dX11_readFloor_16 rfl rfl rfl ?_
  refine gf_11_16 (pc' := 20) (w := 149) hE fl_X11_36 dX11_readFloor_17 is_141 rfl rfl ?_
  refine dk_aload_n (pc' := 21) hE dX11_readFloor_20 rfl rfl rfl ?_
  refine gf_11_28 (pc' := 24) hE fl_X11_269 dX11_readFloor_21 is_141 rfl (fun v7 hv7 htv7 hbv7 => ?_)
  have hq7 : v1 = v7 := (show v7 = v1 by rw [hv7, eσ6, dk_up_n (show ¬ (141 = 148 ∧ 28 = v1) by omega), hfσ2 141 28 (by omega), hv1]).symm
  subst hq7
  clear htv7 hbv7
  refine dk_aload_n (pc' := 25) hE dX11_readFloor_24 rfl rfl rfl ?_
  refine dk_iconst (pc' := 26) hE dX11_readFloor_25 (by decide) rfl ?_
  refine dk_bipush (pc' := 28) hE dX11_readFloor_26 (by decide) rfl ?_
  have gi8 : NX σ σ6 := NX_fr gi5 (fun k_ j_ h_ => by rw [eσ6, dk_up_n (show ¬ (k_ = 148 ∧ j_ = v1) by omega)])
  have hz9 : σ6 141 3 = σ 141 3 := by rw [eσ6, dk_up_n (show ¬ (141 = 148 ∧ 3 = v1) by omega), hfσ2 141 3 (by omega)]
  refine dk_cV (pc' := 31) (as := [(0, 1), (0, 20)]) hE lk_X11_304 (ct_X11_numeral l G hGd 1 20) dX11_readFloor_28 rfl is_141 rfl (by decide) (Nat.le_of_ble_eq_true rfl) ⟨rfl, (NX_tk gi8), (by omega), (by omega)⟩ rfl (fun r11 σ10 hr11 hor11 => ?_)
  obtain ⟨v12, rfl, hfσ10, hpr11⟩ := hr11
  have gi13 : NX σ σ10 := NX_tr gi8 hpr11.2
  refine pa_77 (pc' := 32) hE dX11_readFloor_31 is_149 (by omega) trivial rfl (fun σ14 eσ14 => ?_)
  refine dk_aload_n (pc' := 33) hE dX11_readFloor_32 rfl rfl rfl ?_
  refine dk_aload_n (pc' := 34) hE dX11_readFloor_33 rfl rfl rfl ?_
  refine dk_ldc2 (pc' := 37) hE dX11_readFloor_34 cs_X11_172 (by decide) rfl ?_
  refine dk_cV (pc' := 40) (as := [(3, 1751216740)]) hE lk_X11_281 (ct_X11_isWord l G hGd 1751216740) dX11_readFloor_37 rfl is_141 rfl (by decide) (Nat.le_of_ble_eq_true rfl) rfl rfl (fun r16 σ15 hr16 hor16 => ?_)
  obtain ⟨v17, rfl, hfσ15, hpr16⟩ := hr16
  have hsσ15 : σ14 = σ15 := (funext (fun k => funext (fun j => hfσ15 k j not_false))).symm
  subst hsσ15
  rcases hpr16 with ⟨rfl, hpr16⟩ | rfl
  · skip
    have gi18 : NX σ σ14 := NX_fr gi13 (fun k_ j_ h_ => by rw [eσ14, dk_up_n (show ¬ (k_ = 149 ∧ j_ = v1) by omega)])
    have hz19 : σ14 141 3 = σ 141 3 := by rw [eσ14, dk_up_n (show ¬ (141 = 149 ∧ 3 = v1) by omega), hfσ10 141 3 (by omega), eσ6, dk_up_n (show ¬ (141 = 148 ∧ 3 = v1) by omega), hfσ2 141 3 (by omega)]
    refine dk_cV (pc' := 43) (as := [(0, 1)]) hE lk_X11_301 (ct_X11_must l G hGd 1) dX11_readFloor_40 rfl is_141 rfl (by decide) (Nat.le_of_ble_eq_true rfl) ⟨rfl, (NX_tk gi18), (by omega)⟩ rfl (fun r21 σ20 hr21 hor21 => ?_)
    obtain ⟨rfl, hfσ20, hpr21⟩ := hr21
    have gi22 : NX σ σ20 := NX_tr gi18 hpr21
    refine dk_aload_n (pc' := 44) hE dX11_readFloor_43 rfl rfl rfl ?_
    refine gf_11_17 (pc' := 47) (w := 150) hE fl_X11_39 dX11_readFloor_44 is_141 rfl rfl ?_
    refine dk_aload_n (pc' := 48) hE dX11_readFloor_47 rfl rfl rfl ?_
    refine gf_11_28 (pc' := 51) hE fl_X11_269 dX11_readFloor_48 is_141 rfl (fun v23 hv23 htv23 hbv23 => ?_)
    have hq23 : v1 = v23 := (show v23 = v1 by rw [hv23, hfσ20 141 28 (by omega), eσ14, dk_up_n (show ¬ (141 = 149 ∧ 28 = v1) by omega), hfσ10 141 28 (by omega), hv7]).symm
    subst hq23
    clear htv23 hbv23
    refine dk_aload_n (pc' := 52) hE dX11_readFloor_51 rfl rfl rfl ?_
    refine dk_iconst (pc' := 53) hE dX11_readFloor_52 (by decide) rfl ?_
    refine dk_bipush (pc' := 55) hE dX11_readFloor_53 (by decide) rfl ?_
    have hz24 : σ20 141 3 = σ 141 3 := by rw [hfσ20 141 3 (by omega), eσ14, dk_up_n (show ¬ (141 = 149 ∧ 3 = v1) by omega), hfσ10 141 3 (by omega), eσ6, dk_up_n (show ¬ (141 = 148 ∧ 3 = v1) by omega), hfσ2 141 3 (by omega)]
    refine dk_cV (pc' := 58) (as := [(0, 0), (0, 9)]) hE lk_X11_304 (ct_X11_numeral l G hGd 0 9) dX11_readFloor_55 rfl is_141 rfl (by decide) (Nat.le_of_ble_eq_true rfl) ⟨rfl, (NX_tk gi22), (by omega), (by omega)⟩ rfl (fun r26 σ25 hr26 hor26 => ?_)
    obtain ⟨v27, rfl, hfσ25, hpr26⟩ := hr26
    have gi28 : NX σ σ25 := NX_tr gi22 hpr26.2
    refine pa_78 (pc' := 59) hE dX11_readFloor_58 is_150 (by omega) (by omega) rfl (fun σ29 eσ29 => ?_)
    refine dk_aload_n (pc' := 60) hE dX11_readFloor_59 rfl rfl rfl ?_
    refine gf_11_25 (pc' := 63) (w := 158) hE fl_X11_64 dX11_readFloor_60 is_141 rfl rfl ?_
    refine dk_aload_n (pc' := 64) hE dX11_readFloor_63 rfl rfl rfl ?_
    refine gf_11_28 (pc' := 67) hE fl_X11_269 dX11_readFloor_64 is_141 rfl (fun v30 hv30 htv30 hbv30 => ?_)
    have hq30 : v1 = v30 := (show v30 = v1 by rw [hv30, eσ29, dk_up_n (show ¬ (141 = 150 ∧ 28 = v1) by omega), hfσ25 141 28 (by omega), hv23]).symm
    subst hq30
    clear htv30 hbv30
    refine dk_iconst (pc' := 68) hE dX11_readFloor_67 (by decide) rfl ?_
    refine pa_86 (pc' := 69) hE dX11_readFloor_68 is_158 (by omega) (by omega) trivial rfl (fun σ31 eσ31 => ?_)
    have gi32 : NX σ σ31 := NX_fr gi28 (fun k_ j_ h_ => by rw [eσ31, dk_up_n (show ¬ (k_ = 158 ∧ j_ = v1) by omega), eσ29, dk_up_n (show ¬ (k_ = 150 ∧ j_ = v1) by omega)])
    exact dk_vret (st := []) hE hR dX11_readFloor_69 ⟨rfl, (fun k_ j_ h_ => by rw [eσ31, dk_up_n (show ¬ (k_ = 158 ∧ j_ = v1) from fun q_ => h_ (Or.inr (Or.inr (Or.inr (Or.inr (Or.inr (Or.inr (Or.inr (Or.inr (q_.1)))))))))), eσ29, dk_up_n (show ¬ (k_ = 150 ∧ j_ = v1) from fun q_ => h_ (Or.inr (Or.inr (Or.inr (Or.inr (Or.inr (Or.inr (Or.inr (Or.inl (dk_wr (lo := 148) (hi := 150) q_.1 (by decide))))))))))), hfσ25 k_ j_ (fun w_ => h_ (w_.elim (fun x0_ => Or.inl (x0_)) (fun y0_ => y0_.elim (fun x1_ => Or.inr (Or.inl (x1_))) (fun y1_ => y1_.elim (fun x2_ => Or.inr (Or.inr (Or.inl (x2_)))) (fun y2_ => y2_.elim (fun x3_ => Or.inr (Or.inr (Or.inr (Or.inl (x3_))))) (fun y3_ => y3_.elim (fun x4_ => Or.inr (Or.inr (Or.inr (Or.inr (Or.inl (x4_)))))) (fun y4_ => y4_.elim (fun x5_ => Or.inr (Or.inr (Or.inr (Or.inr (Or.inr (Or.inl (x5_))))))) (fun y5_ => Or.inr (Or.inr (Or.inr (Or.inr (Or.inr (Or.inr (Or.inl (y5_))))))))))))))), hfσ20 k_ j_ (fun w_ => h_ (w_.elim (fun x0_ => Or.inl (x0_)) (fun y0_ => y0_.elim (fun x1_ => Or.inr (Or.inl (x1_))) (fun y1_ => y1_.elim (fun x2_ => Or.inr (Or.inr (Or.inl (x2_)))) (fun y2_ => y2_.elim (fun x3_ => Or.inr (Or.inr (Or.inr (Or.inl (x3_))))) (fun y3_ => y3_.elim (fun x4_ => Or.inr (Or.inr (Or.inr (Or.inr (Or.inl (x4_)))))) (fun y4_ => y4_.elim (fun x5_ => Or.inr (Or.inr (Or.inr (Or.inr (Or.inr (Or.inl (x5_))))))) (fun y5_ => Or.inr (Or.inr (Or.inr (Or.inr (Or.inr (Or.inr (Or.inl (y5_))))))))))))))), eσ14, dk_up_n (show ¬ (k_ = 149 ∧ j_ = v1) from fun q_ => h_ (Or.inr (Or.inr (Or.inr (Or.inr (Or.inr (Or.inr (Or.inr (Or.inl (dk_wr (lo := 148) (hi := 150) q_.1 (by decide))))))))))), hfσ10 k_ j_ (fun w_ => h_ (w_.elim (fun x0_ => Or.inl (x0_)) (fun y0_ => y0_.elim (fun x1_ => Or.inr (Or.inl (x1_))) (fun y1_ => y1_.elim (fun x2_ => Or.inr (Or.inr (Or.inl (x2_)))) (fun y2_ => y2_.elim (fun x3_ => Or.inr (Or.inr (Or.inr (Or.inl (x3_))))) (fun y3_ => y3_.elim (fun x4_ => Or.inr (Or.inr (Or.inr (Or.inr (Or.inl (x4_)))))) (fun y4_ => y4_.elim (fun x5_ => Or.inr (Or.inr (Or.inr (Or.inr (Or.inr (Or.inl (x5_))))))) (fun y5_ => Or.inr (Or.inr (Or.inr (Or.inr (Or.inr (Or.inr (Or.inl (y5_))))))))))))))), eσ6, dk_up_n (show ¬ (k_ = 148 ∧ j_ = v1) from fun q_ => h_ (Or.inr (Or.inr (Or.inr (Or.inr (Or.inr (Or.inr (Or.inr (Or.inl (dk_wr (lo := 148) (hi := 150) q_.1 (by decide))))))))))), hfσ2 k_ j_ (fun w_ => h_ (w_.elim (fun x0_ => Or.inl (x0_)) (fun y0_ => y0_.elim (fun x1_ => Or.inr (Or.inl (x1_))) (fun y1_ => y1_.elim (fun x2_ => Or.inr (Or.inr (Or.inl (x2_)))) (fun y2_ => y2_.elim (fun x3_ => Or.inr (Or.inr (Or.inr (Or.inl (x3_))))) (fun y3_ => y3_.elim (fun x4_ => Or.inr (Or.inr (Or.inr (Or.inr (Or.inl (x4_)))))) (fun y4_ => y4_.elim (fun x5_ => Or.inr (Or.inr (Or.inr (Or.inr (Or.inr (Or.inl (x5_))))))) (fun y5_ => Or.inr (Or.inr (Or.inr (Or.inr (Or.inr (Or.inr (Or.inl (y5_)))))))))))))))]), gi32⟩
  · skip
    have gi33 : NX σ σ14 := NX_fr gi13 (fun k_ j_ h_ => by rw [eσ14, dk_up_n (show ¬ (k_ = 149 ∧ j_ = v1) by omega)])
    have hz34 : σ14 141 3 = σ 141 3 := by rw [eσ14, dk_up_n (show ¬ (141 = 149 ∧ 3 = v1) by omega), hfσ10 141 3 (by omega), eσ6, dk_up_n (show ¬ (141 = 148 ∧ 3 = v1) by omega), hfσ2 141 3 (by omega)]
    refine dk_cV (pc' := 43) (as := [(0, 0)]) hE lk_X11_301 (ct_X11_must l G hGd 0) dX11_readFloor_40 rfl is_141 rfl (by decide) (Nat.le_of_ble_eq_true rfl) ⟨rfl, (NX_tk gi33), (by omega)⟩ rfl (fun r36 σ35 hr36 hor36 => ?_)
    obtain ⟨rfl, hfσ35, hpr36⟩ := hr36
    have gi37 : NX σ σ35 := NX_tr gi33 hpr36
    refine dk_aload_n (pc' := 44) hE dX11_readFloor_43 rfl rfl rfl ?_
    refine gf_11_17 (pc' := 47) (w := 150) hE fl_X11_39 dX11_readFloor_44 is_141 rfl rfl ?_
    refine dk_aload_n (pc' := 48) hE dX11_readFloor_47 rfl rfl rfl ?_
    refine gf_11_28 (pc' := 51) hE fl_X11_269 dX11_readFloor_48 is_141 rfl (fun v38 hv38 htv38 hbv38 => ?_)
    have hq38 : v1 = v38 := (show v38 = v1 by rw [hv38, hfσ35 141 28 (by omega), eσ14, dk_up_n (show ¬ (141 = 149 ∧ 28 = v1) by omega), hfσ10 141 28 (by omega), hv7]).symm
    subst hq38
    clear htv38 hbv38
    refine dk_aload_n (pc' := 52) hE dX11_readFloor_51 rfl rfl rfl ?_
    refine dk_iconst (pc' := 53) hE dX11_readFloor_52 (by decide) rfl ?_
    refine dk_bipush (pc' := 55) hE dX11_readFloor_53 (by decide) rfl ?_
    have hz39 : σ35 141 3 = σ 141 3 := by rw [hfσ35 141 3 (by omega), eσ14, dk_up_n (show ¬ (141 = 149 ∧ 3 = v1) by omega), hfσ10 141 3 (by omega), eσ6, dk_up_n (show ¬ (141 = 148 ∧ 3 = v1) by omega), hfσ2 141 3 (by omega)]
    refine dk_cV (pc' := 58) (as := [(0, 0), (0, 9)]) hE lk_X11_304 (ct_X11_numeral l G hGd 0 9) dX11_readFloor_55 rfl is_141 rfl (by decide) (Nat.le_of_ble_eq_true rfl) ⟨rfl, (NX_tk gi37), (by omega), (by omega)⟩ rfl (fun r41 σ40 hr41 hor41 => ?_)
    obtain ⟨v42, rfl, hfσ40, hpr41⟩ := hr41
    have gi43 : NX σ σ40 := NX_tr gi37 hpr41.2
    refine pa_78 (pc' := 59) hE dX11_readFloor_58 is_150 (by omega) (by omega) rfl (fun σ44 eσ44 => ?_)
    refine dk_aload_n (pc' := 60) hE dX11_readFloor_59 rfl rfl rfl ?_
    refine gf_11_25 (pc' := 63) (w := 158) hE fl_X11_64 dX11_readFloor_60 is_141 rfl rfl ?_
    refine dk_aload_n (pc' := 64) hE dX11_readFloor_63 rfl rfl rfl ?_
    refine gf_11_28 (pc' := 67) hE fl_X11_269 dX11_readFloor_64 is_141 rfl (fun v45 hv45 htv45 hbv45 => ?_)
    have hq45 : v1 = v45 := (show v45 = v1 by rw [hv45, eσ44, dk_up_n (show ¬ (141 = 150 ∧ 28 = v1) by omega), hfσ40 141 28 (by omega), hv38]).symm
    subst hq45
    clear htv45 hbv45
    refine dk_iconst (pc' := 68) hE dX11_readFloor_67 (by decide) rfl ?_
    refine pa_86 (pc' := 69) hE dX11_readFloor_68 is_158 (by omega) (by omega) trivial rfl (fun σ46 eσ46 => ?_)
    have gi47 : NX σ σ46 := NX_fr gi43 (fun k_ j_ h_ => by rw [eσ46, dk_up_n (show ¬ (k_ = 158 ∧ j_ = v1) by omega), eσ44, dk_up_n (show ¬ (k_ = 150 ∧ j_ = v1) by omega)])
    exact dk_vret (st := []) hE hR dX11_readFloor_69 ⟨rfl, (fun k_ j_ h_ => by rw [eσ46, dk_up_n (show ¬ (k_ = 158 ∧ j_ = v1) from fun q_ => h_ (Or.inr (Or.inr (Or.inr (Or.inr (Or.inr (Or.inr (Or.inr (Or.inr (q_.1)))))))))), eσ44, dk_up_n (show ¬ (k_ = 150 ∧ j_ = v1) from fun q_ => h_ (Or.inr (Or.inr (Or.inr (Or.inr (Or.inr (Or.inr (Or.inr (Or.inl (dk_wr (lo := 148) (hi := 150) q_.1 (by decide))))))))))), hfσ40 k_ j_ (fun w_ => h_ (w_.elim (fun x0_ => Or.inl (x0_)) (fun y0_ => y0_.elim (fun x1_ => Or.inr (Or.inl (x1_))) (fun y1_ => y1_.elim (fun x2_ => Or.inr (Or.inr (Or.inl (x2_)))) (fun y2_ => y2_.elim (fun x3_ => Or.inr (Or.inr (Or.inr (Or.inl (x3_))))) (fun y3_ => y3_.elim (fun x4_ => Or.inr (Or.inr (Or.inr (Or.inr (Or.inl (x4_)))))) (fun y4_ => y4_.elim (fun x5_ => Or.inr (Or.inr (Or.inr (Or.inr (Or.inr (Or.inl (x5_))))))) (fun y5_ => Or.inr (Or.inr (Or.inr (Or.inr (Or.inr (Or.inr (Or.inl (y5_))))))))))))))), hfσ35 k_ j_ (fun w_ => h_ (w_.elim (fun x0_ => Or.inl (x0_)) (fun y0_ => y0_.elim (fun x1_ => Or.inr (Or.inl (x1_))) (fun y1_ => y1_.elim (fun x2_ => Or.inr (Or.inr (Or.inl (x2_)))) (fun y2_ => y2_.elim (fun x3_ => Or.inr (Or.inr (Or.inr (Or.inl (x3_))))) (fun y3_ => y3_.elim (fun x4_ => Or.inr (Or.inr (Or.inr (Or.inr (Or.inl (x4_)))))) (fun y4_ => y4_.elim (fun x5_ => Or.inr (Or.inr (Or.inr (Or.inr (Or.inr (Or.inl (x5_))))))) (fun y5_ => Or.inr (Or.inr (Or.inr (Or.inr (Or.inr (Or.inr (Or.inl (y5_))))))))))))))), eσ14, dk_up_n (show ¬ (k_ = 149 ∧ j_ = v1) from fun q_ => h_ (Or.inr (Or.inr (Or.inr (Or.inr (Or.inr (Or.inr (Or.inr (Or.inl (dk_wr (lo := 148) (hi := 150) q_.1 (by decide))))))))))), hfσ10 k_ j_ (fun w_ => h_ (w_.elim (fun x0_ => Or.inl (x0_)) (fun y0_ => y0_.elim (fun x1_ => Or.inr (Or.inl (x1_))) (fun y1_ => y1_.elim (fun x2_ => Or.inr (Or.inr (Or.inl (x2_)))) (fun y2_ => y2_.elim (fun x3_ => Or.inr (Or.inr (Or.inr (Or.inl (x3_))))) (fun y3_ => y3_.elim (fun x4_ => Or.inr (Or.inr (Or.inr (Or.inr (Or.inl (x4_)))))) (fun y4_ => y4_.elim (fun x5_ => Or.inr (Or.inr (Or.inr (Or.inr (Or.inr (Or.inl (x5_))))))) (fun y5_ => Or.inr (Or.inr (Or.inr (Or.inr (Or.inr (Or.inr (Or.inl (y5_))))))))))))))), eσ6, dk_up_n (show ¬ (k_ = 148 ∧ j_ = v1) from fun q_ => h_ (Or.inr (Or.inr (Or.inr (Or.inr (Or.inr (Or.inr (Or.inr (Or.inl (dk_wr (lo := 148) (hi := 150) q_.1 (by decide))))))))))), hfσ2 k_ j_ (fun w_ => h_ (w_.elim (fun x0_ => Or.inl (x0_)) (fun y0_ => y0_.elim (fun x1_ => Or.inr (Or.inl (x1_))) (fun y1_ => y1_.elim (fun x2_ => Or.inr (Or.inr (Or.inl (x2_)))) (fun y2_ => y2_.elim (fun x3_ => Or.inr (Or.inr (Or.inr (Or.inl (x3_))))) (fun y3_ => y3_.elim (fun x4_ => Or.inr (Or.inr (Or.inr (Or.inr (Or.inl (x4_)))))) (fun y4_ => y4_.elim (fun x5_ => Or.inr (Or.inr (Or.inr (Or.inr (Or.inr (Or.inl (x5_))))))) (fun y5_ => Or.inr (Or.inr (Or.inr (Or.inr (Or.inr (Or.inr (Or.inl (y5_)))))))))))))))]), gi47⟩
set_option maxHeartbeats 4000000 in
set_option maxRecDepth 20000 in
theorem ct_X11_freshName (l : Launch) (G : dkG) (hGd : dk_Gd G) (r n : Int) : dk_Ct l G dk_Ty yX11_freshName cX11_freshName 2 (none) 4 190 190 (fun av σ => av = [(4, 141)] ∧ (TK σ) ∧ (σ 141 3 ≤ 1400) ∧ (r = σ 141 28) ∧ (0 ≤ r ∧ r ≤ 1) ∧ (n = σ 147 r) ∧ (0 ≤ n ∧ n ≤ 15)) (fun _ σ r_ σ' => r_ = none ∧ (∀ k_ j_ : Int, ¬ ((k_ = 141 ∧ j_ = 4) ∨ (k_ = 141 ∧ j_ = 5) ∨ (k_ = 141 ∧ j_ = 6) ∨ (k_ = 141 ∧ j_ = 7) ∨ (k_ = 141 ∧ j_ = 8) ∨ (k_ = 141 ∧ j_ = 9) ∨ (k_ = 141 ∧ j_ = 10) ∨ k_ = 147 ∨ k_ = 159) → σ' k_ j_ = σ k_ j_) ∧ (NX σ σ' ∧ σ' 147 r = n + 1)) := by
  refine dk_enter hGd (by decide) (fun av σ hpre hok => ?_)
  obtain ⟨rfl, hT, hS, hr, hr1, hn, hn1⟩ := hpre
  refine ⟨Nat.le_of_ble_eq_true rfl, fun E hE hR _ => ?_⟩
  show dk_PJ E 0 [(4, 141), (9, 0)] [] 190 σ
  refine dk_iconst (pc' := 1) hE dX11_freshName_0 (by decide) rfl ?_
  refine dk_istore_n (pc' := 2) (ls' := [(4, 141), (0, 0)]) hE dX11_freshName_1 rfl rfl (by decide) rfl ?_
  have lp2 : ∀ (N_ : Nat) (i : Int) (σ2c : dkS), (2147483648 - i).toNat < N_ → ((∀ k_ j_ : Int, ¬ ((k_ = 141 ∧ j_ = 4) ∨ (k_ = 141 ∧ j_ = 5)) → σ2c k_ j_ = σ k_ j_)) → (NX σ σ2c) → (0 ≤ i) → dk_PJ E 2 [(4, 141), (0, i)] [] 190 σ2c := by
    intro N2
    induction N2 with
    | zero => intro i σ2c hm; exact absurd hm (Nat.not_lt_zero _)
    | succ N2 ih2 =>
      intro i σ2c hm2 hF2 hG2 hi0
      refine dk_iload_n (pc' := 3) hE dX11_freshName_2 rfl rfl rfl ?_
      refine dk_aload_n (pc' := 4) hE dX11_freshName_3 rfl rfl rfl ?_
      refine gf_11_14 (pc' := 7) (w := 147) hE fl_X11_30 dX11_freshName_4 is_141 rfl rfl ?_
      refine dk_aload_n (pc' := 8) hE dX11_freshName_7 rfl rfl rfl ?_
      refine gf_11_28 (pc' := 11) hE fl_X11_269 dX11_freshName_8 is_141 rfl (fun v1 hv1 htv1 hbv1 => ?_)
      have hq1 : r = v1 := (show v1 = r by rw [hv1, hF2 141 28 (by omega), hr]).symm
      subst hq1
      clear htv1 hbv1
      refine ga_75 (pc' := 12) hE dX11_freshName_11 is_147 (by omega) rfl (fun v2 hv2 htv2 hbv2 => ?_)
      have hq2 : n = v2 := (show v2 = n by rw [hv2, hF2 147 r (by omega), hn]).symm
      subst hq2
      clear htv2 hbv2
      refine dk_icmp_ge (tgt := 60) (pc' := 15) hE dX11_freshName_12 (by decide) rfl (fun hc3 => ?_) (fun hc3 => ?_)
      · skip
        refine dk_aload_n (pc' := 61) hE dX11_freshName_60 rfl rfl rfl ?_
        refine gf_11_26 (pc' := 64) (w := 159) hE fl_X11_67 dX11_freshName_61 is_141 rfl rfl ?_
        refine dk_bipush (pc' := 66) hE dX11_freshName_64 (by decide) rfl ?_
        refine dk_aload_n (pc' := 67) hE dX11_freshName_66 rfl rfl rfl ?_
        refine gf_11_28 (pc' := 70) hE fl_X11_269 dX11_freshName_67 is_141 rfl (fun v4 hv4 htv4 hbv4 => ?_)
        have hq4 : r = v4 := (show v4 = r by rw [hv4, hv1]).symm
        subst hq4
        clear htv4 hbv4
        obtain ⟨v5, hv5⟩ : ∃ z : Int, z = 16 * r := ⟨_, rfl⟩
        refine dk_imul (pc' := 71) hE dX11_freshName_70 hv5.symm (by omega) rfl ?_
        refine dk_aload_n (pc' := 72) hE dX11_freshName_71 rfl rfl rfl ?_
        refine gf_11_14 (pc' := 75) (w := 147) hE fl_X11_30 dX11_freshName_72 is_141 rfl rfl ?_
        refine dk_aload_n (pc' := 76) hE dX11_freshName_75 rfl rfl rfl ?_
        refine gf_11_28 (pc' := 79) hE fl_X11_269 dX11_freshName_76 is_141 rfl (fun v6 hv6 htv6 hbv6 => ?_)
        have hq6 : r = v6 := (show v6 = r by rw [hv6, hv4]).symm
        subst hq6
        clear htv6 hbv6
        refine ga_75 (pc' := 80) hE dX11_freshName_79 is_147 (by omega) rfl (fun v7 hv7 htv7 hbv7 => ?_)
        have hq7 : n = v7 := (show v7 = n by rw [hv7, hv2]).symm
        subst hq7
        clear htv7 hbv7
        obtain ⟨v8, hv8⟩ : ∃ z : Int, z = v5 + n := ⟨_, rfl⟩
        refine dk_iadd (pc' := 81) hE dX11_freshName_80 hv8.symm (by omega) rfl ?_
        refine dk_aload_n (pc' := 82) hE dX11_freshName_81 rfl rfl rfl ?_
        refine gf_11_10 (pc' := 85) hE fl_X11_229 dX11_freshName_82 is_141 rfl (fun v9 hv9 htv9 hbv9 => ?_)
        refine pa_87 (pc' := 86) hE dX11_freshName_85 is_159 (by omega) trivial rfl (fun σ10 eσ10 => ?_)
        refine dk_aload_n (pc' := 87) hE dX11_freshName_86 rfl rfl rfl ?_
        refine dk_aload_n (pc' := 88) hE dX11_freshName_87 rfl rfl rfl ?_
        refine gf_11_8 (pc' := 91) hE fl_X11_222 dX11_freshName_88 is_141 rfl (fun v11 hv11 htv11 hbv11 => ?_)
        refine dk_iconst (pc' := 92) hE dX11_freshName_91 (by decide) rfl ?_
        refine dk_icmp_ne (tgt := 99) (pc' := 95) hE dX11_freshName_92 (by decide) rfl (fun hc12 => ?_) (fun hc12 => ?_)
        · skip
          refine dk_iconst (pc' := 100) hE dX11_freshName_99 (by decide) rfl ?_
          have gi13 : NX σ σ10 := NX_fr hG2 (fun k_ j_ h_ => by rw [eσ10, dk_up_n (show ¬ (k_ = 159 ∧ j_ = v8) by omega)])
          have hz14 : σ10 141 3 = σ 141 3 := by rw [eσ10, dk_up_n (show ¬ (141 = 159 ∧ 3 = v8) by omega), hF2 141 3 (by omega)]
          refine dk_cV (pc' := 103) (as := [(0, 0)]) hE lk_X11_301 (ct_X11_must l G hGd 0) dX11_freshName_100 rfl is_141 rfl (by decide) (Nat.le_of_ble_eq_true rfl) ⟨rfl, (NX_tk gi13), (by omega)⟩ rfl (fun r16 σ15 hr16 hor16 => ?_)
          obtain ⟨rfl, hfσ15, hpr16⟩ := hr16
          have gi17 : NX σ σ15 := NX_tr gi13 hpr16
          refine dk_aload_n (pc' := 104) hE dX11_freshName_103 rfl rfl rfl ?_
          refine gf_11_14 (pc' := 107) (w := 147) hE fl_X11_30 dX11_freshName_104 is_141 rfl rfl ?_
          refine dk_aload_n (pc' := 108) hE dX11_freshName_107 rfl rfl rfl ?_
          refine gf_11_28 (pc' := 111) hE fl_X11_269 dX11_freshName_108 is_141 rfl (fun v18 hv18 htv18 hbv18 => ?_)
          have hq18 : r = v18 := (show v18 = r by rw [hv18, hfσ15 141 28 (by omega), eσ10, dk_up_n (show ¬ (141 = 159 ∧ 28 = v8) by omega), hv6]).symm
          subst hq18
          clear htv18 hbv18
          refine dk_dup2 (pc' := 112) hE dX11_freshName_111 (show (0 : Nat) ≠ 3 by decide) (show (4 : Nat) ≠ 3 by decide) rfl ?_
          refine ga_75 (pc' := 113) hE dX11_freshName_112 is_147 (by omega) rfl (fun v19 hv19 htv19 hbv19 => ?_)
          have hq19 : n = v19 := (show v19 = n by rw [hv19, hfσ15 147 r (by omega), eσ10, dk_up_n (show ¬ (147 = 159 ∧ r = v8) by omega), hv7]).symm
          subst hq19
          clear htv19 hbv19
          refine dk_iconst (pc' := 114) hE dX11_freshName_113 (by decide) rfl ?_
          obtain ⟨v20, hv20⟩ : ∃ z : Int, z = n + 1 := ⟨_, rfl⟩
          refine dk_iadd (pc' := 115) hE dX11_freshName_114 hv20.symm (by omega) rfl ?_
          refine pa_75 (pc' := 116) hE dX11_freshName_115 is_147 (by omega) (by omega) rfl (fun σ21 eσ21 => ?_)
          have hz22 : σ21 147 r = v20 := by rw [eσ21, dk_up_s]
          have gi23 : NX σ σ21 := NX_fr gi17 (fun k_ j_ h_ => by rw [eσ21, dk_up_n (show ¬ (k_ = 147 ∧ j_ = r) by omega)])
          exact dk_vret (st := []) hE hR dX11_freshName_116 ⟨rfl, (fun k_ j_ h_ => by rw [eσ21, dk_up_n (show ¬ (k_ = 147 ∧ j_ = r) from fun q_ => h_ (Or.inr (Or.inr (Or.inr (Or.inr (Or.inr (Or.inr (Or.inr (Or.inl (q_.1)))))))))), hfσ15 k_ j_ (fun w_ => h_ (w_.elim (fun x0_ => Or.inl (x0_)) (fun y0_ => y0_.elim (fun x1_ => Or.inr (Or.inl (x1_))) (fun y1_ => y1_.elim (fun x2_ => Or.inr (Or.inr (Or.inl (x2_)))) (fun y2_ => y2_.elim (fun x3_ => Or.inr (Or.inr (Or.inr (Or.inl (x3_))))) (fun y3_ => y3_.elim (fun x4_ => Or.inr (Or.inr (Or.inr (Or.inr (Or.inl (x4_)))))) (fun y4_ => y4_.elim (fun x5_ => Or.inr (Or.inr (Or.inr (Or.inr (Or.inr (Or.inl (x5_))))))) (fun y5_ => Or.inr (Or.inr (Or.inr (Or.inr (Or.inr (Or.inr (Or.inl (y5_))))))))))))))), eσ10, dk_up_n (show ¬ (k_ = 159 ∧ j_ = v8) from fun q_ => h_ (Or.inr (Or.inr (Or.inr (Or.inr (Or.inr (Or.inr (Or.inr (Or.inr (q_.1)))))))))), hF2 k_ j_ (fun w_ => h_ (w_.elim (fun x0_ => Or.inl (x0_)) (fun y0_ => Or.inr (Or.inl (y0_)))))]), ⟨gi23, by omega⟩⟩
        · skip
          refine dk_iconst (pc' := 96) hE dX11_freshName_95 (by decide) rfl ?_
          refine dk_goto (tgt := 100) hE dX11_freshName_96 (by decide) ?_
          have gi24 : NX σ σ10 := NX_fr hG2 (fun k_ j_ h_ => by rw [eσ10, dk_up_n (show ¬ (k_ = 159 ∧ j_ = v8) by omega)])
          have hz25 : σ10 141 3 = σ 141 3 := by rw [eσ10, dk_up_n (show ¬ (141 = 159 ∧ 3 = v8) by omega), hF2 141 3 (by omega)]
          refine dk_cV (pc' := 103) (as := [(0, 1)]) hE lk_X11_301 (ct_X11_must l G hGd 1) dX11_freshName_100 rfl is_141 rfl (by decide) (Nat.le_of_ble_eq_true rfl) ⟨rfl, (NX_tk gi24), (by omega)⟩ rfl (fun r27 σ26 hr27 hor27 => ?_)
          obtain ⟨rfl, hfσ26, hpr27⟩ := hr27
          have gi28 : NX σ σ26 := NX_tr gi24 hpr27
          refine dk_aload_n (pc' := 104) hE dX11_freshName_103 rfl rfl rfl ?_
          refine gf_11_14 (pc' := 107) (w := 147) hE fl_X11_30 dX11_freshName_104 is_141 rfl rfl ?_
          refine dk_aload_n (pc' := 108) hE dX11_freshName_107 rfl rfl rfl ?_
          refine gf_11_28 (pc' := 111) hE fl_X11_269 dX11_freshName_108 is_141 rfl (fun v29 hv29 htv29 hbv29 => ?_)
          have hq29 : r = v29 := (show v29 = r by rw [hv29, hfσ26 141 28 (by omega), eσ10, dk_up_n (show ¬ (141 = 159 ∧ 28 = v8) by omega), hv6]).symm
          subst hq29
          clear htv29 hbv29
          refine dk_dup2 (pc' := 112) hE dX11_freshName_111 (show (0 : Nat) ≠ 3 by decide) (show (4 : Nat) ≠ 3 by decide) rfl ?_
          refine ga_75 (pc' := 113) hE dX11_freshName_112 is_147 (by omega) rfl (fun v30 hv30 htv30 hbv30 => ?_)
          have hq30 : n = v30 := (show v30 = n by rw [hv30, hfσ26 147 r (by omega), eσ10, dk_up_n (show ¬ (147 = 159 ∧ r = v8) by omega), hv7]).symm
          subst hq30
          clear htv30 hbv30
          refine dk_iconst (pc' := 114) hE dX11_freshName_113 (by decide) rfl ?_
          obtain ⟨v31, hv31⟩ : ∃ z : Int, z = n + 1 := ⟨_, rfl⟩
          refine dk_iadd (pc' := 115) hE dX11_freshName_114 hv31.symm (by omega) rfl ?_
          refine pa_75 (pc' := 116) hE dX11_freshName_115 is_147 (by omega) (by omega) rfl (fun σ32 eσ32 => ?_)
          have hz33 : σ32 147 r = v31 := by rw [eσ32, dk_up_s]
          have gi34 : NX σ σ32 := NX_fr gi28 (fun k_ j_ h_ => by rw [eσ32, dk_up_n (show ¬ (k_ = 147 ∧ j_ = r) by omega)])
          exact dk_vret (st := []) hE hR dX11_freshName_116 ⟨rfl, (fun k_ j_ h_ => by rw [eσ32, dk_up_n (show ¬ (k_ = 147 ∧ j_ = r) from fun q_ => h_ (Or.inr (Or.inr (Or.inr (Or.inr (Or.inr (Or.inr (Or.inr (Or.inl (q_.1)))))))))), hfσ26 k_ j_ (fun w_ => h_ (w_.elim (fun x0_ => Or.inl (x0_)) (fun y0_ => y0_.elim (fun x1_ => Or.inr (Or.inl (x1_))) (fun y1_ => y1_.elim (fun x2_ => Or.inr (Or.inr (Or.inl (x2_)))) (fun y2_ => y2_.elim (fun x3_ => Or.inr (Or.inr (Or.inr (Or.inl (x3_))))) (fun y3_ => y3_.elim (fun x4_ => Or.inr (Or.inr (Or.inr (Or.inr (Or.inl (x4_)))))) (fun y4_ => y4_.elim (fun x5_ => Or.inr (Or.inr (Or.inr (Or.inr (Or.inr (Or.inl (x5_))))))) (fun y5_ => Or.inr (Or.inr (Or.inr (Or.inr (Or.inr (Or.inr (Or.inl (y5_))))))))))))))), eσ10, dk_up_n (show ¬ (k_ = 159 ∧ j_ = v8) from fun q_ => h_ (Or.inr (Or.inr (Or.inr (Or.inr (Or.inr (Or.inr (Or.inr (Or.inr (q_.1)))))))))), hF2 k_ j_ (fun w_ => h_ (w_.elim (fun x0_ => Or.inl (x0_)) (fun y0_ => Or.inr (Or.inl (y0_)))))]), ⟨gi34, by omega⟩⟩
      · skip
        refine dk_aload_n (pc' := 16) hE dX11_freshName_15 rfl rfl rfl ?_
        refine gf_11_8 (pc' := 19) hE fl_X11_222 dX11_freshName_16 is_141 rfl (fun v35 hv35 htv35 hbv35 => ?_)
        refine dk_iconst (pc' := 20) hE dX11_freshName_19 (by decide) rfl ?_
        refine dk_icmp_ne (tgt := 54) (pc' := 23) hE dX11_freshName_20 (by decide) rfl (fun hc36 => ?_) (fun hc36 => ?_)
        · skip
          obtain ⟨v37, hv37⟩ : ∃ z : Int, z = i + 1 := ⟨_, rfl⟩
          refine dk_iinc (pc' := 57) (ls' := [(4, 141), (0, v37)]) hE dX11_freshName_54 rfl hv37.symm (by omega) rfl (by decide) rfl ?_
          refine dk_goto (tgt := 2) hE dX11_freshName_57 (by decide) ?_
          exact ih2 v37 σ2c (by omega) (fun k_ j_ h_ => by rw [hF2 k_ j_ (fun w_ => h_ (w_.elim (fun x0_ => Or.inl (x0_)) (fun y0_ => Or.inr (y0_))))]) hG2 (by omega)
        · skip
          refine dk_aload_n (pc' := 24) hE dX11_freshName_23 rfl rfl rfl ?_
          refine gf_11_26 (pc' := 27) (w := 159) hE fl_X11_67 dX11_freshName_24 is_141 rfl rfl ?_
          refine dk_bipush (pc' := 29) hE dX11_freshName_27 (by decide) rfl ?_
          refine dk_aload_n (pc' := 30) hE dX11_freshName_29 rfl rfl rfl ?_
          refine gf_11_28 (pc' := 33) hE fl_X11_269 dX11_freshName_30 is_141 rfl (fun v38 hv38 htv38 hbv38 => ?_)
          have hq38 : r = v38 := (show v38 = r by rw [hv38, hv1]).symm
          subst hq38
          clear htv38 hbv38
          obtain ⟨v39, hv39⟩ : ∃ z : Int, z = 16 * r := ⟨_, rfl⟩
          refine dk_imul (pc' := 34) hE dX11_freshName_33 hv39.symm (by omega) rfl ?_
          refine dk_iload_n (pc' := 35) hE dX11_freshName_34 rfl rfl rfl ?_
          obtain ⟨v40, hv40⟩ : ∃ z : Int, z = v39 + i := ⟨_, rfl⟩
          refine dk_iadd (pc' := 36) hE dX11_freshName_35 hv40.symm (by omega) rfl ?_
          refine ga_87 (pc' := 37) hE dX11_freshName_36 is_159 (by omega) rfl (fun v41 hv41 htv41 hbv41 => ?_)
          refine dk_aload_n (pc' := 38) hE dX11_freshName_37 rfl rfl rfl ?_
          refine gf_11_10 (pc' := 41) hE fl_X11_229 dX11_freshName_38 is_141 rfl (fun v42 hv42 htv42 hbv42 => ?_)
          refine dk_lcmp (pc' := 42) hE dX11_freshName_41 rfl (fun v43 hv43 => ?_)
          refine dk_if_ne (tgt := 54) (pc' := 45) hE dX11_freshName_42 (by decide) rfl (fun hc44 => ?_) (fun hc44 => ?_)
          · skip
            obtain ⟨v45, hv45⟩ : ∃ z : Int, z = i + 1 := ⟨_, rfl⟩
            refine dk_iinc (pc' := 57) (ls' := [(4, 141), (0, v45)]) hE dX11_freshName_54 rfl hv45.symm (by omega) rfl (by decide) rfl ?_
            refine dk_goto (tgt := 2) hE dX11_freshName_57 (by decide) ?_
            exact ih2 v45 σ2c (by omega) (fun k_ j_ h_ => by rw [hF2 k_ j_ (fun w_ => h_ (w_.elim (fun x0_ => Or.inl (x0_)) (fun y0_ => Or.inr (y0_))))]) hG2 (by omega)
          · skip
            refine dk_aload_n (pc' := 46) hE dX11_freshName_45 rfl rfl rfl ?_
            refine dk_iconst (pc' := 47) hE dX11_freshName_46 (by decide) rfl ?_
            refine dk_aload_n (pc' := 48) hE dX11_freshName_47 rfl rfl rfl ?_
            refine gf_11_6 (pc' := 51) hE fl_X11_215 dX11_freshName_48 is_141 rfl (fun v46 hv46 htv46 hbv46 => ?_)
            refine dk_cV (pc' := 54) (as := [(0, 3), (0, v46)]) hE lk_X11_246 (ct_X11_fails l G hGd 3 v46) dX11_freshName_51 rfl is_141 rfl (by decide) (Nat.le_of_ble_eq_true rfl) ⟨rfl, (by omega)⟩ rfl (fun r48 σ47 hr48 hor48 => ?_)
            obtain ⟨rfl, hfσ47, hpr48⟩ := hr48
            have gi49 : NX σ σ47 := NX_f hG2 hfσ47 hpr48
            obtain ⟨v50, hv50⟩ : ∃ z : Int, z = i + 1 := ⟨_, rfl⟩
            refine dk_iinc (pc' := 57) (ls' := [(4, 141), (0, v50)]) hE dX11_freshName_54 rfl hv50.symm (by omega) rfl (by decide) rfl ?_
            refine dk_goto (tgt := 2) hE dX11_freshName_57 (by decide) ?_
            exact ih2 v50 σ47 (by omega) (fun k_ j_ h_ => by rw [hfσ47 k_ j_ (fun w_ => h_ (w_.elim (fun x0_ => Or.inl (x0_)) (fun y0_ => Or.inr (y0_)))), hF2 k_ j_ (fun w_ => h_ (w_.elim (fun x0_ => Or.inl (x0_)) (fun y0_ => Or.inr (y0_))))]) gi49 (by omega)
  exact lp2 _ 0 σ (Nat.lt_succ_self _) (fun k_ j_ h_ => rfl) (NX_rf hT) (by omega)
set_option maxHeartbeats 4000000 in
set_option maxRecDepth 20000 in
theorem ct_X11_readWork (l : Launch) (G : dkG) (hGd : dk_Gd G) (r n w : Int) : dk_Ct l G dk_Ty yX11_readWork cX11_readWork 1 (none) 5 190 190 (fun av σ => av = [(4, 141)] ∧ (TK σ) ∧ (σ 141 3 ≤ 1400) ∧ (r = σ 141 28) ∧ (0 ≤ r ∧ r ≤ 1) ∧ (n = σ 147 r) ∧ (w = σ 145 r) ∧ (0 ≤ n ∧ n ≤ 15) ∧ (0 ≤ w ∧ w ≤ 3)) (fun _ σ r_ σ' => r_ = none ∧ (∀ k_ j_ : Int, ¬ ((k_ = 141 ∧ j_ = 4) ∨ (k_ = 141 ∧ j_ = 5) ∨ (k_ = 141 ∧ j_ = 6) ∨ (k_ = 141 ∧ j_ = 7) ∨ (k_ = 141 ∧ j_ = 8) ∨ (k_ = 141 ∧ j_ = 9) ∨ (k_ = 141 ∧ j_ = 10) ∨ k_ = 145 ∨ k_ = 147 ∨ k_ = 159) → σ' k_ j_ = σ k_ j_) ∧ (NX σ σ' ∧ σ' 147 r = n + 1 ∧ σ' 145 r = w + 1)) := by
  refine dk_enter hGd (by decide) (fun av σ hpre hok => ?_)
  obtain ⟨rfl, hT, hS, hr, hr1, hn, hw, hn1, hw1⟩ := hpre
  refine ⟨Nat.le_of_ble_eq_true rfl, fun E hE hR _ => ?_⟩
  show dk_PJ E 0 [(4, 141)] [] 190 σ
  refine dk_aload_n (pc' := 1) hE dX11_readWork_0 rfl rfl rfl ?_
  have hz1 : σ 141 28 = r := by rw [hr]
  have hz2 : σ 147 r = n := by rw [hn]
  refine dk_cV (pc' := 4) (as := []) hE lk_X11_308 (ct_X11_freshName l G hGd r n) dX11_readWork_1 rfl is_141 rfl (by decide) (Nat.le_of_ble_eq_true rfl) ⟨rfl, (NX_tk (NX_rf hT)), (by omega), (by omega), (by omega), (by omega), (by omega)⟩ rfl (fun r4 σ3 hr4 hor4 => ?_)
  obtain ⟨rfl, hfσ3, hpr4⟩ := hr4
  have gi5 : NX σ σ3 := NX_tr (NX_rf hT) hpr4.1
  refine dk_aload_n (pc' := 5) hE dX11_readWork_4 rfl rfl rfl ?_
  refine gf_11_12 (pc' := 8) (w := 145) hE fl_X11_24 dX11_readWork_5 is_141 rfl rfl ?_
  refine dk_aload_n (pc' := 9) hE dX11_readWork_8 rfl rfl rfl ?_
  refine gf_11_28 (pc' := 12) hE fl_X11_269 dX11_readWork_9 is_141 rfl (fun v6 hv6 htv6 hbv6 => ?_)
  have hq6 : r = v6 := (show v6 = r by rw [hv6, hfσ3 141 28 (by omega), hr]).symm
  subst hq6
  clear htv6 hbv6
  refine dk_dup2 (pc' := 13) hE dX11_readWork_12 (show (0 : Nat) ≠ 3 by decide) (show (4 : Nat) ≠ 3 by decide) rfl ?_
  refine ga_73 (pc' := 14) hE dX11_readWork_13 is_145 (by omega) rfl (fun v7 hv7 htv7 hbv7 => ?_)
  have hq7 : w = v7 := (show v7 = w by rw [hv7, hfσ3 145 r (by omega), hw]).symm
  subst hq7
  clear htv7 hbv7
  refine dk_iconst (pc' := 15) hE dX11_readWork_14 (by decide) rfl ?_
  obtain ⟨v8, hv8⟩ : ∃ z : Int, z = w + 1 := ⟨_, rfl⟩
  refine dk_iadd (pc' := 16) hE dX11_readWork_15 hv8.symm (by omega) rfl ?_
  refine pa_73 (pc' := 17) hE dX11_readWork_16 is_145 (by omega) (by omega) rfl (fun σ9 eσ9 => ?_)
  have hz10 : σ9 147 r = n + 1 := by rw [eσ9, dk_up_n (show ¬ (147 = 145 ∧ r = r) by omega), (hpr4.2).symm]
  have hz11 : σ9 145 r = v8 := by rw [eσ9, dk_up_s]
  have gi12 : NX σ σ9 := NX_fr gi5 (fun k_ j_ h_ => by rw [eσ9, dk_up_n (show ¬ (k_ = 145 ∧ j_ = r) by omega)])
  exact dk_vret (st := []) hE hR dX11_readWork_17 ⟨rfl, (fun k_ j_ h_ => by rw [eσ9, dk_up_n (show ¬ (k_ = 145 ∧ j_ = r) from fun q_ => h_ (Or.inr (Or.inr (Or.inr (Or.inr (Or.inr (Or.inr (Or.inr (Or.inl (q_.1)))))))))), hfσ3 k_ j_ (fun w_ => h_ (w_.elim (fun x0_ => Or.inl (x0_)) (fun y0_ => y0_.elim (fun x1_ => Or.inr (Or.inl (x1_))) (fun y1_ => y1_.elim (fun x2_ => Or.inr (Or.inr (Or.inl (x2_)))) (fun y2_ => y2_.elim (fun x3_ => Or.inr (Or.inr (Or.inr (Or.inl (x3_))))) (fun y3_ => y3_.elim (fun x4_ => Or.inr (Or.inr (Or.inr (Or.inr (Or.inl (x4_)))))) (fun y4_ => y4_.elim (fun x5_ => Or.inr (Or.inr (Or.inr (Or.inr (Or.inr (Or.inl (x5_))))))) (fun y5_ => y5_.elim (fun x6_ => Or.inr (Or.inr (Or.inr (Or.inr (Or.inr (Or.inr (Or.inl (x6_)))))))) (fun y6_ => y6_.elim (fun x7_ => Or.inr (Or.inr (Or.inr (Or.inr (Or.inr (Or.inr (Or.inr (Or.inr (Or.inl (x7_)))))))))) (fun y7_ => Or.inr (Or.inr (Or.inr (Or.inr (Or.inr (Or.inr (Or.inr (Or.inr (Or.inr (y7_)))))))))))))))))))]), ⟨gi12, by omega, by omega⟩⟩
set_option maxHeartbeats 4000000 in
set_option maxRecDepth 20000 in
theorem ct_X11_stepOf (l : Launch) (G : dkG) (hGd : dk_Gd G) (a b : Int) : dk_Ct l G dk_Ty yX11_stepOf cX11_stepOf 2 (some .int) 1 190 190 (fun av σ => av = [(0, a), (0, b)] ∧ (0 ≤ a ∧ a ≤ 255)) (fun _ σ r_ σ' => ∃ z : Int, r_ = some (0, z) ∧ (∀ k_ j_ : Int, ¬ (False) → σ' k_ j_ = σ k_ j_) ∧ (z = sof a b ∧ z ≤ 7)) := by
  refine dk_enter hGd (by decide) (fun av σ hpre hok => ?_)
  obtain ⟨rfl, ha⟩ := hpre
  refine ⟨Nat.le_of_ble_eq_true rfl, fun E hE hR _ => ?_⟩
  have hi_a : dk_i32 a := dk_oki (hok _ (by simp))
  have hi_b : dk_i32 b := dk_oki (hok _ (by simp))
  show dk_PJ E 0 [(0, a), (0, b)] [] 190 σ
  refine dk_iload_n (pc' := 1) hE dX11_stepOf_0 rfl rfl rfl ?_
  refine dk_if_eq (tgt := 19) (pc' := 4) hE dX11_stepOf_1 (by decide) rfl (fun hc1 => ?_) (fun hc1 => ?_)
  · skip
    refine dk_iload_n (pc' := 20) hE dX11_stepOf_19 rfl rfl rfl ?_
    refine dk_bipush (pc' := 22) hE dX11_stepOf_20 (by decide) rfl ?_
    refine dk_icmp_ne (tgt := 29) (pc' := 25) hE dX11_stepOf_22 (by decide) rfl (fun hc2 => ?_) (fun hc2 => ?_)
    · skip
      refine dk_iload_n (pc' := 30) hE dX11_stepOf_29 rfl rfl rfl ?_
      refine dk_bipush (pc' := 32) hE dX11_stepOf_30 (by decide) rfl ?_
      refine dk_icmp_ne (tgt := 39) (pc' := 35) hE dX11_stepOf_32 (by decide) rfl (fun hc3 => ?_) (fun hc3 => ?_)
      · skip
        refine dk_iload_n (pc' := 40) hE dX11_stepOf_39 rfl rfl rfl ?_
        refine dk_bipush (pc' := 42) hE dX11_stepOf_40 (by decide) rfl ?_
        refine dk_icmp_ne (tgt := 49) (pc' := 45) hE dX11_stepOf_42 (by decide) rfl (fun hc4 => ?_) (fun hc4 => ?_)
        · skip
          refine dk_iload_n (pc' := 50) hE dX11_stepOf_49 rfl rfl rfl ?_
          refine dk_bipush (pc' := 52) hE dX11_stepOf_50 (by decide) rfl ?_
          refine dk_icmp_ne (tgt := 59) (pc' := 55) hE dX11_stepOf_52 (by decide) rfl (fun hc5 => ?_) (fun hc5 => ?_)
          · skip
            refine dk_iload_n (pc' := 60) hE dX11_stepOf_59 rfl rfl rfl ?_
            refine dk_bipush (pc' := 62) hE dX11_stepOf_60 (by decide) rfl ?_
            refine dk_icmp_ne (tgt := 69) (pc' := 65) hE dX11_stepOf_62 (by decide) rfl (fun hc6 => ?_) (fun hc6 => ?_)
            · skip
              refine dk_iload_n (pc' := 70) hE dX11_stepOf_69 rfl rfl rfl ?_
              refine dk_bipush (pc' := 72) hE dX11_stepOf_70 (by decide) rfl ?_
              refine dk_icmp_ne (tgt := 79) (pc' := 75) hE dX11_stepOf_72 (by decide) rfl (fun hc7 => ?_) (fun hc7 => ?_)
              · skip
                refine dk_iconst (pc' := 80) hE dX11_stepOf_79 (by decide) rfl ?_
                exact dk_iret (st := []) hE hR dX11_stepOf_80 ⟨_, rfl, (fun k_ j_ h_ => rfl), ⟨by unfold sof; (repeat' split) <;> omega, by omega⟩⟩
              · skip
                refine dk_iconst (pc' := 76) hE dX11_stepOf_75 (by decide) rfl ?_
                refine dk_goto (tgt := 80) hE dX11_stepOf_76 (by decide) ?_
                exact dk_iret (st := []) hE hR dX11_stepOf_80 ⟨_, rfl, (fun k_ j_ h_ => rfl), ⟨by unfold sof; (repeat' split) <;> omega, by omega⟩⟩
            · skip
              refine dk_iconst (pc' := 66) hE dX11_stepOf_65 (by decide) rfl ?_
              refine dk_goto (tgt := 80) hE dX11_stepOf_66 (by decide) ?_
              exact dk_iret (st := []) hE hR dX11_stepOf_80 ⟨_, rfl, (fun k_ j_ h_ => rfl), ⟨by unfold sof; (repeat' split) <;> omega, by omega⟩⟩
          · skip
            refine dk_iconst (pc' := 56) hE dX11_stepOf_55 (by decide) rfl ?_
            refine dk_goto (tgt := 80) hE dX11_stepOf_56 (by decide) ?_
            exact dk_iret (st := []) hE hR dX11_stepOf_80 ⟨_, rfl, (fun k_ j_ h_ => rfl), ⟨by unfold sof; (repeat' split) <;> omega, by omega⟩⟩
        · skip
          refine dk_iconst (pc' := 46) hE dX11_stepOf_45 (by decide) rfl ?_
          refine dk_goto (tgt := 80) hE dX11_stepOf_46 (by decide) ?_
          exact dk_iret (st := []) hE hR dX11_stepOf_80 ⟨_, rfl, (fun k_ j_ h_ => rfl), ⟨by unfold sof; (repeat' split) <;> omega, by omega⟩⟩
      · skip
        refine dk_iconst (pc' := 36) hE dX11_stepOf_35 (by decide) rfl ?_
        refine dk_goto (tgt := 80) hE dX11_stepOf_36 (by decide) ?_
        exact dk_iret (st := []) hE hR dX11_stepOf_80 ⟨_, rfl, (fun k_ j_ h_ => rfl), ⟨by unfold sof; (repeat' split) <;> omega, by omega⟩⟩
    · skip
      refine dk_iconst (pc' := 26) hE dX11_stepOf_25 (by decide) rfl ?_
      refine dk_goto (tgt := 80) hE dX11_stepOf_26 (by decide) ?_
      exact dk_iret (st := []) hE hR dX11_stepOf_80 ⟨_, rfl, (fun k_ j_ h_ => rfl), ⟨by unfold sof; (repeat' split) <;> omega, by omega⟩⟩
  · skip
    refine dk_iload_n (pc' := 5) hE dX11_stepOf_4 rfl rfl rfl ?_
    refine dk_bipush (pc' := 7) hE dX11_stepOf_5 (by decide) rfl ?_
    refine dk_icmp_gt (tgt := 17) (pc' := 10) hE dX11_stepOf_7 (by decide) rfl (fun hc8 => ?_) (fun hc8 => ?_)
    · skip
      refine dk_iconst (pc' := 18) hE dX11_stepOf_17 (by decide) rfl ?_
      exact dk_iret (st := []) hE hR dX11_stepOf_18 ⟨_, rfl, (fun k_ j_ h_ => rfl), ⟨by unfold sof; (repeat' split) <;> omega, by omega⟩⟩
    · skip
      refine dk_iload_n (pc' := 11) hE dX11_stepOf_10 rfl rfl rfl ?_
      refine dk_bipush (pc' := 13) hE dX11_stepOf_11 (by decide) rfl ?_
      obtain ⟨v9, hv9⟩ : ∃ z : Int, z = a - 97 := ⟨_, rfl⟩
      refine dk_isub (pc' := 14) hE dX11_stepOf_13 hv9.symm (by omega) rfl ?_
      refine dk_goto (tgt := 18) hE dX11_stepOf_14 (by decide) ?_
      exact dk_iret (st := []) hE hR dX11_stepOf_18 ⟨_, rfl, (fun k_ j_ h_ => rfl), ⟨by unfold sof; (repeat' split) <;> omega, by omega⟩⟩
set_option maxHeartbeats 4000000 in
set_option maxRecDepth 20000 in
theorem ct_X11_readSteps (l : Launch) (G : dkG) (hGd : dk_Gd G) (p b : Int) : dk_Ct l G dk_Ty yX11_readSteps cX11_readSteps 5 (none) 3 190 190 (fun av σ => av = [(4, 141), (0, p), (0, b)] ∧ (TK σ) ∧ (σ 141 3 ≤ 1400) ∧ (0 ≤ p ∧ p < 24)) (fun _ σ r_ σ' => r_ = none ∧ (∀ k_ j_ : Int, ¬ ((k_ = 141 ∧ j_ = 4) ∨ (k_ = 141 ∧ j_ = 5) ∨ (k_ = 141 ∧ j_ = 6) ∨ (k_ = 141 ∧ j_ = 7) ∨ (k_ = 141 ∧ j_ = 8) ∨ (k_ = 141 ∧ j_ = 9) ∨ (k_ = 141 ∧ j_ = 10) ∨ (154 ≤ k_ ∧ k_ ≤ 155)) → σ' k_ j_ = σ k_ j_) ∧ (RD σ σ')) := by
  refine dk_enter hGd (by decide) (fun av σ hpre hok => ?_)
  obtain ⟨rfl, hT, hS, hp⟩ := hpre
  refine ⟨Nat.le_of_ble_eq_true rfl, fun E hE hR _ => ?_⟩
  have hi_p : dk_i32 p := dk_oki (hok _ (by simp))
  have hi_b : dk_i32 b := dk_oki (hok _ (by simp))
  show dk_PJ E 0 [(4, 141), (0, p), (0, b), (9, 0), (9, 0)] [] 190 σ
  have hT1 := hT.1
  have hT2 := hT.2.1
  refine dk_aload_n (pc' := 1) hE dX11_readSteps_0 rfl rfl rfl ?_
  refine gf_11_21 (pc' := 4) (w := 154) hE fl_X11_51 dX11_readSteps_1 is_141 rfl rfl ?_
  refine dk_iload_n (pc' := 5) hE dX11_readSteps_4 rfl rfl rfl ?_
  refine ga_82 (pc' := 6) hE dX11_readSteps_5 is_154 (by omega) rfl (fun v1 hv1 htv1 hbv1 => ?_)
  refine dk_aload_n (pc' := 7) hE dX11_readSteps_6 rfl rfl rfl ?_
  refine gf_11_7 (pc' := 10) hE fl_X11_212 dX11_readSteps_7 is_141 rfl (fun v2 hv2 htv2 hbv2 => ?_)
  obtain ⟨v3, hv3⟩ : ∃ z : Int, z = v1 + v2 := ⟨_, rfl⟩
  refine dk_iadd (pc' := 11) hE dX11_readSteps_10 hv3.symm (by omega) rfl ?_
  refine dk_aload_n (pc' := 12) hE dX11_readSteps_11 rfl rfl rfl ?_
  refine gf_11_6 (pc' := 15) hE fl_X11_215 dX11_readSteps_12 is_141 rfl (fun v4 hv4 htv4 hbv4 => ?_)
  obtain ⟨v5, hv5⟩ : ∃ z : Int, z = v3 - v4 := ⟨_, rfl⟩
  refine dk_isub (pc' := 16) hE dX11_readSteps_15 hv5.symm (by omega) rfl ?_
  refine dk_bipush (pc' := 18) hE dX11_readSteps_16 (by decide) rfl ?_
  refine dk_icmp_gt (tgt := 25) (pc' := 21) hE dX11_readSteps_18 (by decide) rfl (fun hc6 => ?_) (fun hc6 => ?_)
  · skip
    refine dk_iconst (pc' := 26) hE dX11_readSteps_25 (by decide) rfl ?_
    refine dk_istore_n (pc' := 27) (ls' := [(4, 141), (0, p), (0, b), (0, 0), (9, 0)]) hE dX11_readSteps_26 rfl rfl (by decide) rfl ?_
    refine dk_aload_n (pc' := 28) hE dX11_readSteps_27 rfl rfl rfl ?_
    refine gf_11_6 (pc' := 31) hE fl_X11_215 dX11_readSteps_28 is_141 rfl (fun v7 hv7 htv7 hbv7 => ?_)
    have hq7 : v4 = v7 := (show v7 = v4 by rw [hv7, hv4]).symm
    subst hq7
    clear htv7 hbv7
    refine dk_istore (pc' := 33) (ls' := [(4, 141), (0, p), (0, b), (0, 0), (0, v4)]) hE dX11_readSteps_31 rfl (by decide) rfl ?_
    have lp33 : ∀ (N_ : Nat) (f k : Int) (σ33c : dkS), (2147483648 - k).toNat < N_ → ((∀ k_ j_ : Int, ¬ (False) → σ33c k_ j_ = σ k_ j_)) → (0 ≤ f ∧ f ≤ 1) → (σ 141 6 ≤ k ∧ 0 ≤ k) → (f = 1 → σ 154 p + σ 141 7 - σ 141 6 ≤ 32) → (f = 1 → ∀ q_ : Int, σ 141 6 ≤ q_ → q_ < k → 0 ≤ sof (tsg σ q_) b) → dk_PJ E 33 [(4, 141), (0, p), (0, b), (0, f), (0, k)] [] 190 σ33c := by
      intro N33
      induction N33 with
      | zero => intro f k σ33c hm; exact absurd hm (Nat.not_lt_zero _)
      | succ N33 ih33 =>
        intro f k σ33c hm33 hF33 hf1 hk hfa hfb
        refine dk_iload (pc' := 35) hE dX11_readSteps_33 rfl rfl ?_
        refine dk_aload_n (pc' := 36) hE dX11_readSteps_35 rfl rfl rfl ?_
        refine gf_11_7 (pc' := 39) hE fl_X11_212 dX11_readSteps_36 is_141 rfl (fun v8 hv8 htv8 hbv8 => ?_)
        have hq8 : v2 = v8 := (show v8 = v2 by rw [hv8, hF33 141 7 not_false, hv2]).symm
        subst hq8
        clear htv8 hbv8
        refine dk_icmp_ge (tgt := 71) (pc' := 42) hE dX11_readSteps_39 (by decide) rfl (fun hc9 => ?_) (fun hc9 => ?_)
        · skip
          refine dk_iload_n (pc' := 72) hE dX11_readSteps_71 rfl rfl rfl ?_
          refine dk_if_ne (tgt := 85) (pc' := 75) hE dX11_readSteps_72 (by decide) rfl (fun hc10 => ?_) (fun hc10 => ?_)
          · skip
            refine dk_aload_n (pc' := 86) hE dX11_readSteps_85 rfl rfl rfl ?_
            refine gf_11_6 (pc' := 89) hE fl_X11_215 dX11_readSteps_86 is_141 rfl (fun v11 hv11 htv11 hbv11 => ?_)
            have hq11 : v4 = v11 := (show v11 = v4 by rw [hv11, hF33 141 6 not_false, hv7]).symm
            subst hq11
            clear htv11 hbv11
            refine dk_istore (pc' := 91) (ls' := [(4, 141), (0, p), (0, b), (0, f), (0, v4)]) hE dX11_readSteps_89 rfl (by decide) rfl ?_
            have lp91 : ∀ (N_ : Nat) (k2 : Int) (σ91c : dkS), (2147483648 - k2).toNat < N_ → ((∀ k_ j_ : Int, ¬ ((154 ≤ k_ ∧ k_ ≤ 155)) → σ91c k_ j_ = σ33c k_ j_)) → (σ 141 6 ≤ k2 ∧ 0 ≤ k2 ∧ k2 ≤ σ 141 7) → (σ91c 154 p = σ 154 p + (k2 - σ 141 6)) → dk_PJ E 91 [(4, 141), (0, p), (0, b), (0, f), (0, k2)] [] 190 σ91c := by
              intro N91
              induction N91 with
              | zero => intro k2 σ91c hm; exact absurd hm (Nat.not_lt_zero _)
              | succ N91 ih91 =>
                intro k2 σ91c hm91 hF91 hk2 hc4
                refine dk_iload (pc' := 93) hE dX11_readSteps_91 rfl rfl ?_
                refine dk_aload_n (pc' := 94) hE dX11_readSteps_93 rfl rfl rfl ?_
                refine gf_11_7 (pc' := 97) hE fl_X11_212 dX11_readSteps_94 is_141 rfl (fun v12 hv12 htv12 hbv12 => ?_)
                have hq12 : v2 = v12 := (show v12 = v2 by rw [hv12, hF91 141 7 (by omega), hv8]).symm
                subst hq12
                clear htv12 hbv12
                refine dk_icmp_ge (tgt := 142) (pc' := 100) hE dX11_readSteps_97 (by decide) rfl (fun hc13 => ?_) (fun hc13 => ?_)
                · skip
                  refine dk_aload_n (pc' := 143) hE dX11_readSteps_142 rfl rfl rfl ?_
                  have hz14 : σ91c 141 7 = v2 := by rw [hv12]
                  have hz15 : σ91c 141 3 = σ 141 3 := by rw [hF91 141 3 (by omega), hF33 141 3 not_false]
                  have gi16 : NX σ σ91c := NX_fr (NX_rf hT) (fun k_ j_ h_ => by rw [hF91 k_ j_ (by omega), hF33 k_ j_ not_false])
                  have hz17 : σ91c 141 3 = σ 141 3 := by rw [hF91 141 3 (by omega), hF33 141 3 not_false]
                  refine dk_cV (pc' := 146) (as := []) hE lk_X11_254 (ct_X11_next l G hGd) dX11_readSteps_143 rfl is_141 rfl (by decide) (Nat.le_of_ble_eq_true rfl) ⟨rfl, ((NX_tk gi16).2.1), (by omega)⟩ rfl (fun r19 σ18 hr19 hor19 => ?_)
                  obtain ⟨rfl, hfσ18, hpr19⟩ := hr19
                  have H143 := hpr19
                  have gi20 : NX σ σ18 := NX_y gi16 hpr19
                  exact dk_vret (st := []) hE hR dX11_readSteps_146 ⟨rfl, (fun k_ j_ h_ => by rw [hfσ18 k_ j_ (fun w_ => h_ (w_.elim (fun x0_ => Or.inr (Or.inr (Or.inl (x0_)))) (fun y0_ => y0_.elim (fun x1_ => Or.inr (Or.inr (Or.inr (Or.inl (x1_))))) (fun y1_ => y1_.elim (fun x2_ => Or.inr (Or.inr (Or.inr (Or.inr (Or.inl (x2_)))))) (fun y2_ => y2_.elim (fun x3_ => Or.inr (Or.inr (Or.inr (Or.inr (Or.inr (Or.inl (x3_))))))) (fun y3_ => Or.inr (Or.inr (Or.inr (Or.inr (Or.inr (Or.inr (Or.inl (y3_))))))))))))), hF91 k_ j_ (fun w_ => h_ (Or.inr (Or.inr (Or.inr (Or.inr (Or.inr (Or.inr (Or.inr (w_))))))))), hF33 k_ j_ not_false]), ⟨gi20, fun a_ q_ => Or.inr (by have y_ := H143.2.2.1; have t_ := hT.2.2 q_; omega)⟩⟩
                · skip
                  refine dk_aload_n (pc' := 101) hE dX11_readSteps_100 rfl rfl rfl ?_
                  refine gf_11_22 (pc' := 104) (w := 155) hE fl_X11_54 dX11_readSteps_101 is_141 rfl rfl ?_
                  refine dk_bipush (pc' := 106) hE dX11_readSteps_104 (by decide) rfl ?_
                  refine dk_iload_n (pc' := 107) hE dX11_readSteps_106 rfl rfl rfl ?_
                  obtain ⟨v21, hv21⟩ : ∃ z : Int, z = 32 * p := ⟨_, rfl⟩
                  refine dk_imul (pc' := 108) hE dX11_readSteps_107 hv21.symm (by omega) rfl ?_
                  refine dk_aload_n (pc' := 109) hE dX11_readSteps_108 rfl rfl rfl ?_
                  refine gf_11_21 (pc' := 112) (w := 154) hE fl_X11_51 dX11_readSteps_109 is_141 rfl rfl ?_
                  refine dk_iload_n (pc' := 113) hE dX11_readSteps_112 rfl rfl rfl ?_
                  refine ga_82 (pc' := 114) hE dX11_readSteps_113 is_154 (by omega) rfl (fun v22 hv22 htv22 hbv22 => ?_)
                  obtain ⟨v23, hv23⟩ : ∃ z : Int, z = v21 + v22 := ⟨_, rfl⟩
                  refine dk_iadd (pc' := 115) hE dX11_readSteps_114 hv23.symm (by omega) rfl ?_
                  refine dk_aload_n (pc' := 116) hE dX11_readSteps_115 rfl rfl rfl ?_
                  refine dk_iload (pc' := 118) hE dX11_readSteps_116 rfl rfl ?_
                  have hn_118 : tsg σ91c k2 = tsg σ k2 := by rw [tsg_fr (hF91 141 3 (by omega)) (fun q_ => hF91 143 q_ (by omega)), tsg_fr (hF33 141 3 not_false) (fun q_ => hF33 143 q_ not_false)]
                  refine dk_cV (pc' := 121) (as := [(0, k2)]) hE lk_X11_218 (ct_X11_sign l G hGd k2) dX11_readSteps_118 rfl is_141 rfl (by decide) (Nat.le_of_ble_eq_true rfl) ⟨rfl, (by omega)⟩ rfl (fun r25 σ24 hr25 hor25 => ?_)
                  obtain ⟨v27, rfl, hfσ24, hpr25⟩ := hr25
                  have H118 := hpr25
                  have hsσ24 : σ91c = σ24 := (funext (fun k => funext (fun j => hfσ24 k j not_false))).symm
                  subst hsσ24
                  refine dk_iload_n (pc' := 122) hE dX11_readSteps_121 rfl rfl rfl ?_
                  refine dk_cS (pc' := 125) (as := [(0, v27), (0, b)]) hE lk_X11_315 (ct_X11_stepOf l G hGd v27 b) dX11_readSteps_122 rfl rfl (by decide) (Nat.le_of_ble_eq_true rfl) ⟨rfl, (by omega)⟩ rfl (fun r29 σ28 hr29 hor29 => ?_)
                  obtain ⟨v30, rfl, hfσ28, hpr29⟩ := hr29
                  have H122 := hpr29
                  have hsσ28 : σ91c = σ28 := (funext (fun k => funext (fun j => hfσ28 k j not_false))).symm
                  subst hsσ28
                  have hge := hfb (by omega) k2 (by omega) (by omega)
                  rw [← hn_118, ← H118.1, ← H122.1] at hge
                  refine pa_83 (pc' := 126) hE dX11_readSteps_125 is_155 (by omega) (by omega) rfl (fun σ31 eσ31 => ?_)
                  refine dk_aload_n (pc' := 127) hE dX11_readSteps_126 rfl rfl rfl ?_
                  refine gf_11_21 (pc' := 130) (w := 154) hE fl_X11_51 dX11_readSteps_127 is_141 rfl rfl ?_
                  refine dk_iload_n (pc' := 131) hE dX11_readSteps_130 rfl rfl rfl ?_
                  refine dk_dup2 (pc' := 132) hE dX11_readSteps_131 (show (0 : Nat) ≠ 3 by decide) (show (4 : Nat) ≠ 3 by decide) rfl ?_
                  refine ga_82 (pc' := 133) hE dX11_readSteps_132 is_154 (by omega) rfl (fun v32 hv32 htv32 hbv32 => ?_)
                  have hq32 : v22 = v32 := (show v32 = v22 by rw [hv32, eσ31, dk_up_n (show ¬ (154 = 155 ∧ p = v23) by omega), hv22]).symm
                  subst hq32
                  clear htv32 hbv32
                  refine dk_iconst (pc' := 134) hE dX11_readSteps_133 (by decide) rfl ?_
                  obtain ⟨v33, hv33⟩ : ∃ z : Int, z = v22 + 1 := ⟨_, rfl⟩
                  refine dk_iadd (pc' := 135) hE dX11_readSteps_134 hv33.symm (by omega) rfl ?_
                  refine pa_82 (pc' := 136) hE dX11_readSteps_135 is_154 (by omega) (by omega) rfl (fun σ34 eσ34 => ?_)
                  obtain ⟨v35, hv35⟩ : ∃ z : Int, z = k2 + 1 := ⟨_, rfl⟩
                  refine dk_iinc (pc' := 139) (ls' := [(4, 141), (0, p), (0, b), (0, f), (0, v35)]) hE dX11_readSteps_136 rfl hv35.symm (by omega) rfl (by decide) rfl ?_
                  refine dk_goto (tgt := 91) hE dX11_readSteps_139 (by decide) ?_
                  have hz35_154_p : σ34 154 p = v33 := by rw [eσ34, dk_up_s]
                  exact ih91 v35 σ34 (by omega) (fun k_ j_ h_ => by rw [eσ34, dk_up_n (show ¬ (k_ = 154 ∧ j_ = p) from fun q_ => h_ (dk_wr (lo := 154) (hi := 155) q_.1 (by decide))), eσ31, dk_up_n (show ¬ (k_ = 155 ∧ j_ = v23) from fun q_ => h_ (dk_wr (lo := 154) (hi := 155) q_.1 (by decide))), hF91 k_ j_ (fun w_ => h_ (w_))]) (by omega) (by omega)
            have hz37 : σ33c 154 p = v1 := by rw [hF33 154 p not_false, hv1]
            exact lp91 _ v4 σ33c (Nat.lt_succ_self _) (fun k_ j_ h_ => rfl) (by omega) (by omega)
          · skip
            refine dk_aload_n (pc' := 76) hE dX11_readSteps_75 rfl rfl rfl ?_
            refine dk_iconst (pc' := 77) hE dX11_readSteps_76 (by decide) rfl ?_
            refine dk_aload_n (pc' := 78) hE dX11_readSteps_77 rfl rfl rfl ?_
            refine gf_11_6 (pc' := 81) hE fl_X11_215 dX11_readSteps_78 is_141 rfl (fun v39 hv39 htv39 hbv39 => ?_)
            have hq39 : v4 = v39 := (show v39 = v4 by rw [hv39, hF33 141 6 not_false, hv7]).symm
            subst hq39
            clear htv39 hbv39
            refine dk_cV (pc' := 84) (as := [(0, 5), (0, v4)]) hE lk_X11_246 (ct_X11_fails l G hGd 5 v4) dX11_readSteps_81 rfl is_141 rfl (by decide) (Nat.le_of_ble_eq_true rfl) ⟨rfl, (by omega)⟩ rfl (fun r41 σ40 hr41 hor41 => ?_)
            obtain ⟨rfl, hfσ40, hpr41⟩ := hr41
            have H81 := hpr41
            have gi42 : NX σ σ33c := NX_fr (NX_rf hT) (fun k_ j_ h_ => by rw [hF33 k_ j_ not_false])
            have gi43 : NX σ σ40 := NX_f gi42 hfσ40 hpr41
            exact dk_vret (st := []) hE hR dX11_readSteps_84 ⟨rfl, (fun k_ j_ h_ => by rw [hfσ40 k_ j_ (fun w_ => h_ (w_.elim (fun x0_ => Or.inl (x0_)) (fun y0_ => Or.inr (Or.inl (y0_))))), hF33 k_ j_ not_false]), RD_f gi43 (by omega)⟩
        · skip
          refine dk_iload_n (pc' := 43) hE dX11_readSteps_42 rfl rfl rfl ?_
          refine dk_if_eq (tgt := 63) (pc' := 46) hE dX11_readSteps_43 (by decide) rfl (fun hc44 => ?_) (fun hc44 => ?_)
          · skip
            refine dk_iconst (pc' := 64) hE dX11_readSteps_63 (by decide) rfl ?_
            refine dk_istore_n (pc' := 65) (ls' := [(4, 141), (0, p), (0, b), (0, 0), (0, k)]) hE dX11_readSteps_64 rfl rfl (by decide) rfl ?_
            obtain ⟨v45, hv45⟩ : ∃ z : Int, z = k + 1 := ⟨_, rfl⟩
            refine dk_iinc (pc' := 68) (ls' := [(4, 141), (0, p), (0, b), (0, 0), (0, v45)]) hE dX11_readSteps_65 rfl hv45.symm (by omega) rfl (by decide) rfl ?_
            refine dk_goto (tgt := 33) hE dX11_readSteps_68 (by decide) ?_
            exact ih33 0 v45 σ33c (by omega) (fun k_ j_ h_ => by rw [hF33 k_ j_ not_false]) (by omega) (by omega) (by omega) (fun e_ q_ a_ b_ => by first | (exfalso; omega) | exact (if c_ : q_ < k then hfb (by omega) q_ a_ c_ else (by rw [show q_ = k by omega, ← hn_49, ← H49.1, ← H53.1]; omega)))
          · skip
            refine dk_aload_n (pc' := 47) hE dX11_readSteps_46 rfl rfl rfl ?_
            refine dk_iload (pc' := 49) hE dX11_readSteps_47 rfl rfl ?_
            have hn_49 : tsg σ33c k = tsg σ k := by rw [tsg_fr (hF33 141 3 not_false) (fun q_ => hF33 143 q_ not_false)]
            refine dk_cV (pc' := 52) (as := [(0, k)]) hE lk_X11_218 (ct_X11_sign l G hGd k) dX11_readSteps_49 rfl is_141 rfl (by decide) (Nat.le_of_ble_eq_true rfl) ⟨rfl, (by omega)⟩ rfl (fun r47 σ46 hr47 hor47 => ?_)
            obtain ⟨v49, rfl, hfσ46, hpr47⟩ := hr47
            have H49 := hpr47
            have hsσ46 : σ33c = σ46 := (funext (fun k => funext (fun j => hfσ46 k j not_false))).symm
            subst hsσ46
            refine dk_iload_n (pc' := 53) hE dX11_readSteps_52 rfl rfl rfl ?_
            refine dk_cS (pc' := 56) (as := [(0, v49), (0, b)]) hE lk_X11_315 (ct_X11_stepOf l G hGd v49 b) dX11_readSteps_53 rfl rfl (by decide) (Nat.le_of_ble_eq_true rfl) ⟨rfl, (by omega)⟩ rfl (fun r51 σ50 hr51 hor51 => ?_)
            obtain ⟨v52, rfl, hfσ50, hpr51⟩ := hr51
            have H53 := hpr51
            have hsσ50 : σ33c = σ50 := (funext (fun k => funext (fun j => hfσ50 k j not_false))).symm
            subst hsσ50
            refine dk_if_lt (tgt := 63) (pc' := 59) hE dX11_readSteps_56 (by decide) rfl (fun hc53 => ?_) (fun hc53 => ?_)
            · skip
              refine dk_iconst (pc' := 64) hE dX11_readSteps_63 (by decide) rfl ?_
              refine dk_istore_n (pc' := 65) (ls' := [(4, 141), (0, p), (0, b), (0, 0), (0, k)]) hE dX11_readSteps_64 rfl rfl (by decide) rfl ?_
              obtain ⟨v54, hv54⟩ : ∃ z : Int, z = k + 1 := ⟨_, rfl⟩
              refine dk_iinc (pc' := 68) (ls' := [(4, 141), (0, p), (0, b), (0, 0), (0, v54)]) hE dX11_readSteps_65 rfl hv54.symm (by omega) rfl (by decide) rfl ?_
              refine dk_goto (tgt := 33) hE dX11_readSteps_68 (by decide) ?_
              exact ih33 0 v54 σ33c (by omega) (fun k_ j_ h_ => by rw [hF33 k_ j_ not_false]) (by omega) (by omega) (by omega) (fun e_ q_ a_ b_ => by first | (exfalso; omega) | exact (if c_ : q_ < k then hfb (by omega) q_ a_ c_ else (by rw [show q_ = k by omega, ← hn_49, ← H49.1, ← H53.1]; omega)))
            · skip
              refine dk_iconst (pc' := 60) hE dX11_readSteps_59 (by decide) rfl ?_
              refine dk_goto (tgt := 64) hE dX11_readSteps_60 (by decide) ?_
              refine dk_istore_n (pc' := 65) (ls' := [(4, 141), (0, p), (0, b), (0, 1), (0, k)]) hE dX11_readSteps_64 rfl rfl (by decide) rfl ?_
              obtain ⟨v55, hv55⟩ : ∃ z : Int, z = k + 1 := ⟨_, rfl⟩
              refine dk_iinc (pc' := 68) (ls' := [(4, 141), (0, p), (0, b), (0, 1), (0, v55)]) hE dX11_readSteps_65 rfl hv55.symm (by omega) rfl (by decide) rfl ?_
              refine dk_goto (tgt := 33) hE dX11_readSteps_68 (by decide) ?_
              exact ih33 1 v55 σ33c (by omega) (fun k_ j_ h_ => by rw [hF33 k_ j_ not_false]) (by omega) (by omega) (by omega) (fun e_ q_ a_ b_ => by first | (exfalso; omega) | exact (if c_ : q_ < k then hfb (by omega) q_ a_ c_ else (by rw [show q_ = k by omega, ← hn_49, ← H49.1, ← H53.1]; omega)))
    have hz56 : σ 141 6 = v4 := by rw [hv7]
    have hz57 : σ 154 p = v1 := by rw [hv1]
    have hz58 : σ 141 7 = v2 := by rw [hv2]
    have hz59 : σ 141 6 = v4 := by rw [hv7]
    exact lp33 _ 0 v4 σ (Nat.lt_succ_self _) (fun k_ j_ h_ => rfl) (by omega) (by omega) (by omega) (fun e_ q_ a_ b_ => by first | (exfalso; omega) | exact (if c_ : q_ < k then hfb (by omega) q_ a_ c_ else (by rw [show q_ = k by omega, ← hn_49, ← H49.1, ← H53.1]; omega)))
  · skip
    refine dk_iconst (pc' := 22) hE dX11_readSteps_21 (by decide) rfl ?_
    refine dk_goto (tgt := 26) hE dX11_readSteps_22 (by decide) ?_
    refine dk_istore_n (pc' := 27) (ls' := [(4, 141), (0, p), (0, b), (0, 1), (9, 0)]) hE dX11_readSteps_26 rfl rfl (by decide) rfl ?_
    refine dk_aload_n (pc' := 28) hE dX11_readSteps_27 rfl rfl rfl ?_
    refine gf_11_6 (pc' := 31) hE fl_X11_215 dX11_readSteps_28 is_141 rfl (fun v60 hv60 htv60 hbv60 => ?_)
    have hq60 : v4 = v60 := (show v60 = v4 by rw [hv60, hv4]).symm
    subst hq60
    clear htv60 hbv60
    refine dk_istore (pc' := 33) (ls' := [(4, 141), (0, p), (0, b), (0, 1), (0, v4)]) hE dX11_readSteps_31 rfl (by decide) rfl ?_
    have lp33 : ∀ (N_ : Nat) (f k : Int) (σ33c : dkS), (2147483648 - k).toNat < N_ → ((∀ k_ j_ : Int, ¬ (False) → σ33c k_ j_ = σ k_ j_)) → (0 ≤ f ∧ f ≤ 1) → (σ 141 6 ≤ k ∧ 0 ≤ k) → (f = 1 → σ 154 p + σ 141 7 - σ 141 6 ≤ 32) → (f = 1 → ∀ q_ : Int, σ 141 6 ≤ q_ → q_ < k → 0 ≤ sof (tsg σ q_) b) → dk_PJ E 33 [(4, 141), (0, p), (0, b), (0, f), (0, k)] [] 190 σ33c := by
      intro N33
      induction N33 with
      | zero => intro f k σ33c hm; exact absurd hm (Nat.not_lt_zero _)
      | succ N33 ih33 =>
        intro f k σ33c hm33 hF33 hf1 hk hfa hfb
        refine dk_iload (pc' := 35) hE dX11_readSteps_33 rfl rfl ?_
        refine dk_aload_n (pc' := 36) hE dX11_readSteps_35 rfl rfl rfl ?_
        refine gf_11_7 (pc' := 39) hE fl_X11_212 dX11_readSteps_36 is_141 rfl (fun v61 hv61 htv61 hbv61 => ?_)
        have hq61 : v2 = v61 := (show v61 = v2 by rw [hv61, hF33 141 7 not_false, hv2]).symm
        subst hq61
        clear htv61 hbv61
        refine dk_icmp_ge (tgt := 71) (pc' := 42) hE dX11_readSteps_39 (by decide) rfl (fun hc62 => ?_) (fun hc62 => ?_)
        · skip
          refine dk_iload_n (pc' := 72) hE dX11_readSteps_71 rfl rfl rfl ?_
          refine dk_if_ne (tgt := 85) (pc' := 75) hE dX11_readSteps_72 (by decide) rfl (fun hc63 => ?_) (fun hc63 => ?_)
          · skip
            refine dk_aload_n (pc' := 86) hE dX11_readSteps_85 rfl rfl rfl ?_
            refine gf_11_6 (pc' := 89) hE fl_X11_215 dX11_readSteps_86 is_141 rfl (fun v64 hv64 htv64 hbv64 => ?_)
            have hq64 : v4 = v64 := (show v64 = v4 by rw [hv64, hF33 141 6 not_false, hv60]).symm
            subst hq64
            clear htv64 hbv64
            refine dk_istore (pc' := 91) (ls' := [(4, 141), (0, p), (0, b), (0, f), (0, v4)]) hE dX11_readSteps_89 rfl (by decide) rfl ?_
            have lp91 : ∀ (N_ : Nat) (k2 : Int) (σ91c : dkS), (2147483648 - k2).toNat < N_ → ((∀ k_ j_ : Int, ¬ ((154 ≤ k_ ∧ k_ ≤ 155)) → σ91c k_ j_ = σ33c k_ j_)) → (σ 141 6 ≤ k2 ∧ 0 ≤ k2 ∧ k2 ≤ σ 141 7) → (σ91c 154 p = σ 154 p + (k2 - σ 141 6)) → dk_PJ E 91 [(4, 141), (0, p), (0, b), (0, f), (0, k2)] [] 190 σ91c := by
              intro N91
              induction N91 with
              | zero => intro k2 σ91c hm; exact absurd hm (Nat.not_lt_zero _)
              | succ N91 ih91 =>
                intro k2 σ91c hm91 hF91 hk2 hc4
                refine dk_iload (pc' := 93) hE dX11_readSteps_91 rfl rfl ?_
                refine dk_aload_n (pc' := 94) hE dX11_readSteps_93 rfl rfl rfl ?_
                refine gf_11_7 (pc' := 97) hE fl_X11_212 dX11_readSteps_94 is_141 rfl (fun v65 hv65 htv65 hbv65 => ?_)
                have hq65 : v2 = v65 := (show v65 = v2 by rw [hv65, hF91 141 7 (by omega), hv61]).symm
                subst hq65
                clear htv65 hbv65
                refine dk_icmp_ge (tgt := 142) (pc' := 100) hE dX11_readSteps_97 (by decide) rfl (fun hc66 => ?_) (fun hc66 => ?_)
                · skip
                  refine dk_aload_n (pc' := 143) hE dX11_readSteps_142 rfl rfl rfl ?_
                  have hz67 : σ91c 141 7 = v2 := by rw [hv65]
                  have hz68 : σ91c 141 3 = σ 141 3 := by rw [hF91 141 3 (by omega), hF33 141 3 not_false]
                  have gi69 : NX σ σ91c := NX_fr (NX_rf hT) (fun k_ j_ h_ => by rw [hF91 k_ j_ (by omega), hF33 k_ j_ not_false])
                  have hz70 : σ91c 141 3 = σ 141 3 := by rw [hF91 141 3 (by omega), hF33 141 3 not_false]
                  refine dk_cV (pc' := 146) (as := []) hE lk_X11_254 (ct_X11_next l G hGd) dX11_readSteps_143 rfl is_141 rfl (by decide) (Nat.le_of_ble_eq_true rfl) ⟨rfl, ((NX_tk gi69).2.1), (by omega)⟩ rfl (fun r72 σ71 hr72 hor72 => ?_)
                  obtain ⟨rfl, hfσ71, hpr72⟩ := hr72
                  have H143 := hpr72
                  have gi73 : NX σ σ71 := NX_y gi69 hpr72
                  exact dk_vret (st := []) hE hR dX11_readSteps_146 ⟨rfl, (fun k_ j_ h_ => by rw [hfσ71 k_ j_ (fun w_ => h_ (w_.elim (fun x0_ => Or.inr (Or.inr (Or.inl (x0_)))) (fun y0_ => y0_.elim (fun x1_ => Or.inr (Or.inr (Or.inr (Or.inl (x1_))))) (fun y1_ => y1_.elim (fun x2_ => Or.inr (Or.inr (Or.inr (Or.inr (Or.inl (x2_)))))) (fun y2_ => y2_.elim (fun x3_ => Or.inr (Or.inr (Or.inr (Or.inr (Or.inr (Or.inl (x3_))))))) (fun y3_ => Or.inr (Or.inr (Or.inr (Or.inr (Or.inr (Or.inr (Or.inl (y3_))))))))))))), hF91 k_ j_ (fun w_ => h_ (Or.inr (Or.inr (Or.inr (Or.inr (Or.inr (Or.inr (Or.inr (w_))))))))), hF33 k_ j_ not_false]), ⟨gi73, fun a_ q_ => Or.inr (by have y_ := H143.2.2.1; have t_ := hT.2.2 q_; omega)⟩⟩
                · skip
                  refine dk_aload_n (pc' := 101) hE dX11_readSteps_100 rfl rfl rfl ?_
                  refine gf_11_22 (pc' := 104) (w := 155) hE fl_X11_54 dX11_readSteps_101 is_141 rfl rfl ?_
                  refine dk_bipush (pc' := 106) hE dX11_readSteps_104 (by decide) rfl ?_
                  refine dk_iload_n (pc' := 107) hE dX11_readSteps_106 rfl rfl rfl ?_
                  obtain ⟨v74, hv74⟩ : ∃ z : Int, z = 32 * p := ⟨_, rfl⟩
                  refine dk_imul (pc' := 108) hE dX11_readSteps_107 hv74.symm (by omega) rfl ?_
                  refine dk_aload_n (pc' := 109) hE dX11_readSteps_108 rfl rfl rfl ?_
                  refine gf_11_21 (pc' := 112) (w := 154) hE fl_X11_51 dX11_readSteps_109 is_141 rfl rfl ?_
                  refine dk_iload_n (pc' := 113) hE dX11_readSteps_112 rfl rfl rfl ?_
                  refine ga_82 (pc' := 114) hE dX11_readSteps_113 is_154 (by omega) rfl (fun v75 hv75 htv75 hbv75 => ?_)
                  obtain ⟨v76, hv76⟩ : ∃ z : Int, z = v74 + v75 := ⟨_, rfl⟩
                  refine dk_iadd (pc' := 115) hE dX11_readSteps_114 hv76.symm (by omega) rfl ?_
                  refine dk_aload_n (pc' := 116) hE dX11_readSteps_115 rfl rfl rfl ?_
                  refine dk_iload (pc' := 118) hE dX11_readSteps_116 rfl rfl ?_
                  have hn_118 : tsg σ91c k2 = tsg σ k2 := by rw [tsg_fr (hF91 141 3 (by omega)) (fun q_ => hF91 143 q_ (by omega)), tsg_fr (hF33 141 3 not_false) (fun q_ => hF33 143 q_ not_false)]
                  refine dk_cV (pc' := 121) (as := [(0, k2)]) hE lk_X11_218 (ct_X11_sign l G hGd k2) dX11_readSteps_118 rfl is_141 rfl (by decide) (Nat.le_of_ble_eq_true rfl) ⟨rfl, (by omega)⟩ rfl (fun r78 σ77 hr78 hor78 => ?_)
                  obtain ⟨v80, rfl, hfσ77, hpr78⟩ := hr78
                  have H118 := hpr78
                  have hsσ77 : σ91c = σ77 := (funext (fun k => funext (fun j => hfσ77 k j not_false))).symm
                  subst hsσ77
                  refine dk_iload_n (pc' := 122) hE dX11_readSteps_121 rfl rfl rfl ?_
                  refine dk_cS (pc' := 125) (as := [(0, v80), (0, b)]) hE lk_X11_315 (ct_X11_stepOf l G hGd v80 b) dX11_readSteps_122 rfl rfl (by decide) (Nat.le_of_ble_eq_true rfl) ⟨rfl, (by omega)⟩ rfl (fun r82 σ81 hr82 hor82 => ?_)
                  obtain ⟨v83, rfl, hfσ81, hpr82⟩ := hr82
                  have H122 := hpr82
                  have hsσ81 : σ91c = σ81 := (funext (fun k => funext (fun j => hfσ81 k j not_false))).symm
                  subst hsσ81
                  have hge := hfb (by omega) k2 (by omega) (by omega)
                  rw [← hn_118, ← H118.1, ← H122.1] at hge
                  refine pa_83 (pc' := 126) hE dX11_readSteps_125 is_155 (by omega) (by omega) rfl (fun σ84 eσ84 => ?_)
                  refine dk_aload_n (pc' := 127) hE dX11_readSteps_126 rfl rfl rfl ?_
                  refine gf_11_21 (pc' := 130) (w := 154) hE fl_X11_51 dX11_readSteps_127 is_141 rfl rfl ?_
                  refine dk_iload_n (pc' := 131) hE dX11_readSteps_130 rfl rfl rfl ?_
                  refine dk_dup2 (pc' := 132) hE dX11_readSteps_131 (show (0 : Nat) ≠ 3 by decide) (show (4 : Nat) ≠ 3 by decide) rfl ?_
                  refine ga_82 (pc' := 133) hE dX11_readSteps_132 is_154 (by omega) rfl (fun v85 hv85 htv85 hbv85 => ?_)
                  have hq85 : v75 = v85 := (show v85 = v75 by rw [hv85, eσ84, dk_up_n (show ¬ (154 = 155 ∧ p = v76) by omega), hv75]).symm
                  subst hq85
                  clear htv85 hbv85
                  refine dk_iconst (pc' := 134) hE dX11_readSteps_133 (by decide) rfl ?_
                  obtain ⟨v86, hv86⟩ : ∃ z : Int, z = v75 + 1 := ⟨_, rfl⟩
                  refine dk_iadd (pc' := 135) hE dX11_readSteps_134 hv86.symm (by omega) rfl ?_
                  refine pa_82 (pc' := 136) hE dX11_readSteps_135 is_154 (by omega) (by omega) rfl (fun σ87 eσ87 => ?_)
                  obtain ⟨v88, hv88⟩ : ∃ z : Int, z = k2 + 1 := ⟨_, rfl⟩
                  refine dk_iinc (pc' := 139) (ls' := [(4, 141), (0, p), (0, b), (0, f), (0, v88)]) hE dX11_readSteps_136 rfl hv88.symm (by omega) rfl (by decide) rfl ?_
                  refine dk_goto (tgt := 91) hE dX11_readSteps_139 (by decide) ?_
                  have hz88_154_p : σ87 154 p = v86 := by rw [eσ87, dk_up_s]
                  exact ih91 v88 σ87 (by omega) (fun k_ j_ h_ => by rw [eσ87, dk_up_n (show ¬ (k_ = 154 ∧ j_ = p) from fun q_ => h_ (dk_wr (lo := 154) (hi := 155) q_.1 (by decide))), eσ84, dk_up_n (show ¬ (k_ = 155 ∧ j_ = v76) from fun q_ => h_ (dk_wr (lo := 154) (hi := 155) q_.1 (by decide))), hF91 k_ j_ (fun w_ => h_ (w_))]) (by omega) (by omega)
            have hz90 : σ33c 154 p = v1 := by rw [hF33 154 p not_false, hv1]
            exact lp91 _ v4 σ33c (Nat.lt_succ_self _) (fun k_ j_ h_ => rfl) (by omega) (by omega)
          · skip
            refine dk_aload_n (pc' := 76) hE dX11_readSteps_75 rfl rfl rfl ?_
            refine dk_iconst (pc' := 77) hE dX11_readSteps_76 (by decide) rfl ?_
            refine dk_aload_n (pc' := 78) hE dX11_readSteps_77 rfl rfl rfl ?_
            refine gf_11_6 (pc' := 81) hE fl_X11_215 dX11_readSteps_78 is_141 rfl (fun v92 hv92 htv92 hbv92 => ?_)
            have hq92 : v4 = v92 := (show v92 = v4 by rw [hv92, hF33 141 6 not_false, hv60]).symm
            subst hq92
            clear htv92 hbv92
            refine dk_cV (pc' := 84) (as := [(0, 5), (0, v4)]) hE lk_X11_246 (ct_X11_fails l G hGd 5 v4) dX11_readSteps_81 rfl is_141 rfl (by decide) (Nat.le_of_ble_eq_true rfl) ⟨rfl, (by omega)⟩ rfl (fun r94 σ93 hr94 hor94 => ?_)
            obtain ⟨rfl, hfσ93, hpr94⟩ := hr94
            have H81 := hpr94
            have gi95 : NX σ σ33c := NX_fr (NX_rf hT) (fun k_ j_ h_ => by rw [hF33 k_ j_ not_false])
            have gi96 : NX σ σ93 := NX_f gi95 hfσ93 hpr94
            exact dk_vret (st := []) hE hR dX11_readSteps_84 ⟨rfl, (fun k_ j_ h_ => by rw [hfσ93 k_ j_ (fun w_ => h_ (w_.elim (fun x0_ => Or.inl (x0_)) (fun y0_ => Or.inr (Or.inl (y0_))))), hF33 k_ j_ not_false]), RD_f gi96 (by omega)⟩
        · skip
          refine dk_iload_n (pc' := 43) hE dX11_readSteps_42 rfl rfl rfl ?_
          refine dk_if_eq (tgt := 63) (pc' := 46) hE dX11_readSteps_43 (by decide) rfl (fun hc97 => ?_) (fun hc97 => ?_)
          · skip
            refine dk_iconst (pc' := 64) hE dX11_readSteps_63 (by decide) rfl ?_
            refine dk_istore_n (pc' := 65) (ls' := [(4, 141), (0, p), (0, b), (0, 0), (0, k)]) hE dX11_readSteps_64 rfl rfl (by decide) rfl ?_
            obtain ⟨v98, hv98⟩ : ∃ z : Int, z = k + 1 := ⟨_, rfl⟩
            refine dk_iinc (pc' := 68) (ls' := [(4, 141), (0, p), (0, b), (0, 0), (0, v98)]) hE dX11_readSteps_65 rfl hv98.symm (by omega) rfl (by decide) rfl ?_
            refine dk_goto (tgt := 33) hE dX11_readSteps_68 (by decide) ?_
            exact ih33 0 v98 σ33c (by omega) (fun k_ j_ h_ => by rw [hF33 k_ j_ not_false]) (by omega) (by omega) (by omega) (fun e_ q_ a_ b_ => by first | (exfalso; omega) | exact (if c_ : q_ < k then hfb (by omega) q_ a_ c_ else (by rw [show q_ = k by omega, ← hn_49, ← H49.1, ← H53.1]; omega)))
          · skip
            refine dk_aload_n (pc' := 47) hE dX11_readSteps_46 rfl rfl rfl ?_
            refine dk_iload (pc' := 49) hE dX11_readSteps_47 rfl rfl ?_
            have hn_49 : tsg σ33c k = tsg σ k := by rw [tsg_fr (hF33 141 3 not_false) (fun q_ => hF33 143 q_ not_false)]
            refine dk_cV (pc' := 52) (as := [(0, k)]) hE lk_X11_218 (ct_X11_sign l G hGd k) dX11_readSteps_49 rfl is_141 rfl (by decide) (Nat.le_of_ble_eq_true rfl) ⟨rfl, (by omega)⟩ rfl (fun r100 σ99 hr100 hor100 => ?_)
            obtain ⟨v102, rfl, hfσ99, hpr100⟩ := hr100
            have H49 := hpr100
            have hsσ99 : σ33c = σ99 := (funext (fun k => funext (fun j => hfσ99 k j not_false))).symm
            subst hsσ99
            refine dk_iload_n (pc' := 53) hE dX11_readSteps_52 rfl rfl rfl ?_
            refine dk_cS (pc' := 56) (as := [(0, v102), (0, b)]) hE lk_X11_315 (ct_X11_stepOf l G hGd v102 b) dX11_readSteps_53 rfl rfl (by decide) (Nat.le_of_ble_eq_true rfl) ⟨rfl, (by omega)⟩ rfl (fun r104 σ103 hr104 hor104 => ?_)
            obtain ⟨v105, rfl, hfσ103, hpr104⟩ := hr104
            have H53 := hpr104
            have hsσ103 : σ33c = σ103 := (funext (fun k => funext (fun j => hfσ103 k j not_false))).symm
            subst hsσ103
            refine dk_if_lt (tgt := 63) (pc' := 59) hE dX11_readSteps_56 (by decide) rfl (fun hc106 => ?_) (fun hc106 => ?_)
            · skip
              refine dk_iconst (pc' := 64) hE dX11_readSteps_63 (by decide) rfl ?_
              refine dk_istore_n (pc' := 65) (ls' := [(4, 141), (0, p), (0, b), (0, 0), (0, k)]) hE dX11_readSteps_64 rfl rfl (by decide) rfl ?_
              obtain ⟨v107, hv107⟩ : ∃ z : Int, z = k + 1 := ⟨_, rfl⟩
              refine dk_iinc (pc' := 68) (ls' := [(4, 141), (0, p), (0, b), (0, 0), (0, v107)]) hE dX11_readSteps_65 rfl hv107.symm (by omega) rfl (by decide) rfl ?_
              refine dk_goto (tgt := 33) hE dX11_readSteps_68 (by decide) ?_
              exact ih33 0 v107 σ33c (by omega) (fun k_ j_ h_ => by rw [hF33 k_ j_ not_false]) (by omega) (by omega) (by omega) (fun e_ q_ a_ b_ => by first | (exfalso; omega) | exact (if c_ : q_ < k then hfb (by omega) q_ a_ c_ else (by rw [show q_ = k by omega, ← hn_49, ← H49.1, ← H53.1]; omega)))
            · skip
              refine dk_iconst (pc' := 60) hE dX11_readSteps_59 (by decide) rfl ?_
              refine dk_goto (tgt := 64) hE dX11_readSteps_60 (by decide) ?_
              refine dk_istore_n (pc' := 65) (ls' := [(4, 141), (0, p), (0, b), (0, 1), (0, k)]) hE dX11_readSteps_64 rfl rfl (by decide) rfl ?_
              obtain ⟨v108, hv108⟩ : ∃ z : Int, z = k + 1 := ⟨_, rfl⟩
              refine dk_iinc (pc' := 68) (ls' := [(4, 141), (0, p), (0, b), (0, 1), (0, v108)]) hE dX11_readSteps_65 rfl hv108.symm (by omega) rfl (by decide) rfl ?_
              refine dk_goto (tgt := 33) hE dX11_readSteps_68 (by decide) ?_
              exact ih33 1 v108 σ33c (by omega) (fun k_ j_ h_ => by rw [hF33 k_ j_ not_false]) (by omega) (by omega) (by omega) (fun e_ q_ a_ b_ => by first | (exfalso; omega) | exact (if c_ : q_ < k then hfb (by omega) q_ a_ c_ else (by rw [show q_ = k by omega, ← hn_49, ← H49.1, ← H53.1]; omega)))
    have hz109 : σ 141 6 = v4 := by rw [hv60]
    have hz110 : σ 154 p = v1 := by rw [hv1]
    have hz111 : σ 141 7 = v2 := by rw [hv2]
    have hz112 : σ 141 6 = v4 := by rw [hv60]
    exact lp33 _ 1 v4 σ (Nat.lt_succ_self _) (fun k_ j_ h_ => rfl) (by omega) (by omega) (by omega) (fun e_ q_ a_ b_ => by first | (exfalso; omega) | exact (if c_ : q_ < k then hfb (by omega) q_ a_ c_ else (by rw [show q_ = k by omega, ← hn_49, ← H49.1, ← H53.1]; omega)))
set_option maxHeartbeats 4000000 in
set_option maxRecDepth 20000 in
theorem ct_X11_readPart (l : Launch) (G : dkG) (hGd : dk_Gd G) (b r n w q : Int) : dk_Ct l G dk_Ty yX11_readPart cX11_readPart 3 (none) 5 190 190 (fun av σ => av = [(4, 141), (0, b)] ∧ (TK σ) ∧ (σ 141 3 ≤ 1400) ∧ (r = σ 141 28) ∧ (0 ≤ r ∧ r ≤ 1) ∧ (n = σ 147 r) ∧ (w = σ 145 r) ∧ (q = σ 146 r) ∧ (TI r σ) ∧ (0 ≤ n ∧ n ≤ 15) ∧ (1 ≤ w ∧ w ≤ 4) ∧ (0 ≤ q ∧ q ≤ 11) ∧ (∀ i : Int, i = 4 * r + w - 1 → σ 156 i ≤ 7) ∧ (0 ≤ b ∧ b ≤ 1)) (fun _ σ r_ σ' => r_ = none ∧ (∀ k_ j_ : Int, ¬ ((k_ = 141 ∧ j_ = 4) ∨ (k_ = 141 ∧ j_ = 5) ∨ (k_ = 141 ∧ j_ = 6) ∨ (k_ = 141 ∧ j_ = 7) ∨ (k_ = 141 ∧ j_ = 8) ∨ (k_ = 141 ∧ j_ = 9) ∨ (k_ = 141 ∧ j_ = 10) ∨ (146 ≤ k_ ∧ k_ ≤ 147) ∨ (151 ≤ k_ ∧ k_ ≤ 157) ∨ k_ = 159) → σ' k_ j_ = σ k_ j_) ∧ (RX r σ σ' ∧ σ' 147 r = n + 1 ∧ σ' 146 r = q + 1)) := by
  refine dk_enter hGd (by decide) (fun av σ hpre hok => ?_)
  obtain ⟨rfl, hT, hS, hr, hr1, hn, hw, hq, hTI, hn1, hw1, hq1, h8, hb⟩ := hpre
  refine ⟨Nat.le_of_ble_eq_true rfl, fun E hE hR _ => ?_⟩
  have hi_b : dk_i32 b := dk_oki (hok _ (by simp))
  show dk_PJ E 0 [(4, 141), (0, b), (9, 0)] [] 190 σ
  refine dk_bipush (pc' := 2) hE dX11_readPart_0 (by decide) rfl ?_
  refine dk_aload_n (pc' := 3) hE dX11_readPart_2 rfl rfl rfl ?_
  refine gf_11_28 (pc' := 6) hE fl_X11_269 dX11_readPart_3 is_141 rfl (fun v1 hv1 htv1 hbv1 => ?_)
  have hq1 : r = v1 := (show v1 = r by rw [hv1, hr]).symm
  subst hq1
  clear htv1 hbv1
  obtain ⟨v2, hv2⟩ : ∃ z : Int, z = 12 * r := ⟨_, rfl⟩
  refine dk_imul (pc' := 7) hE dX11_readPart_6 hv2.symm (by omega) rfl ?_
  refine dk_aload_n (pc' := 8) hE dX11_readPart_7 rfl rfl rfl ?_
  refine gf_11_13 (pc' := 11) (w := 146) hE fl_X11_27 dX11_readPart_8 is_141 rfl rfl ?_
  refine dk_aload_n (pc' := 12) hE dX11_readPart_11 rfl rfl rfl ?_
  refine gf_11_28 (pc' := 15) hE fl_X11_269 dX11_readPart_12 is_141 rfl (fun v3 hv3 htv3 hbv3 => ?_)
  have hq3 : r = v3 := (show v3 = r by rw [hv3, hv1]).symm
  subst hq3
  clear htv3 hbv3
  refine ga_74 (pc' := 16) hE dX11_readPart_15 is_146 (by omega) rfl (fun v4 hv4 htv4 hbv4 => ?_)
  have hq4 : q = v4 := (show v4 = q by rw [hv4, hq]).symm
  subst hq4
  clear htv4 hbv4
  obtain ⟨v5, hv5⟩ : ∃ z : Int, z = v2 + q := ⟨_, rfl⟩
  refine dk_iadd (pc' := 17) hE dX11_readPart_16 hv5.symm (by omega) rfl ?_
  refine dk_istore_n (pc' := 18) (ls' := [(4, 141), (0, b), (0, v5)]) hE dX11_readPart_17 rfl rfl (by decide) rfl ?_
  refine dk_aload_n (pc' := 19) hE dX11_readPart_18 rfl rfl rfl ?_
  have hz6 : σ 141 28 = r := by rw [hv3]
  have hz7 : σ 147 r = n := by rw [hn]
  refine dk_cV (pc' := 22) (as := []) hE lk_X11_308 (ct_X11_freshName l G hGd r n) dX11_readPart_19 rfl is_141 rfl (by decide) (Nat.le_of_ble_eq_true rfl) ⟨rfl, (NX_tk ((RX_of hT hTI)).1), (by omega), (by omega), (by omega), (by omega), (by omega)⟩ rfl (fun r9 σ8 hr9 hor9 => ?_)
  obtain ⟨rfl, hfσ8, hpr9⟩ := hr9
  have gi10 : RX r σ σ8 := RX_tr (RX_of hT hTI) hpr9.1 (fun k_ j_ h_ => hfσ8 k_ j_ (by omega))
  refine dk_aload_n (pc' := 23) hE dX11_readPart_22 rfl rfl rfl ?_
  refine dk_aload_n (pc' := 24) hE dX11_readPart_23 rfl rfl rfl ?_
  refine dk_ldc2 (pc' := 27) hE dX11_readPart_24 cs_X11_180 (by decide) rfl ?_
  refine dk_cV (pc' := 30) (as := [(3, 24948)]) hE lk_X11_281 (ct_X11_isWord l G hGd 24948) dX11_readPart_27 rfl is_141 rfl (by decide) (Nat.le_of_ble_eq_true rfl) rfl rfl (fun r12 σ11 hr12 hor12 => ?_)
  obtain ⟨v13, rfl, hfσ11, hpr12⟩ := hr12
  have hsσ11 : σ8 = σ11 := (funext (fun k => funext (fun j => hfσ11 k j not_false))).symm
  subst hsσ11
  rcases hpr12 with ⟨rfl, hpr12⟩ | rfl
  · skip
    have hz14 : σ8 141 3 = σ 141 3 := by rw [hfσ8 141 3 (by omega)]
    refine dk_cV (pc' := 33) (as := [(0, 1)]) hE lk_X11_301 (ct_X11_must l G hGd 1) dX11_readPart_30 rfl is_141 rfl (by decide) (Nat.le_of_ble_eq_true rfl) ⟨rfl, (NX_tk (gi10).1), (by omega)⟩ rfl (fun r16 σ15 hr16 hor16 => ?_)
    obtain ⟨rfl, hfσ15, hpr16⟩ := hr16
    have gi17 : RX r σ σ15 := RX_tr gi10 hpr16 (fun k_ j_ h_ => hfσ15 k_ j_ (by omega))
    refine dk_aload_n (pc' := 34) hE dX11_readPart_33 rfl rfl rfl ?_
    refine gf_11_19 (pc' := 37) (w := 152) hE fl_X11_45 dX11_readPart_34 is_141 rfl rfl ?_
    refine dk_iload_n (pc' := 38) hE dX11_readPart_37 rfl rfl rfl ?_
    refine dk_aload_n (pc' := 39) hE dX11_readPart_38 rfl rfl rfl ?_
    refine dk_iconst (pc' := 40) hE dX11_readPart_39 (by decide) rfl ?_
    refine dk_bipush (pc' := 42) hE dX11_readPart_40 (by decide) rfl ?_
    have hz18 : σ15 141 3 = σ 141 3 := by rw [hfσ15 141 3 (by omega), hfσ8 141 3 (by omega)]
    refine dk_cV (pc' := 45) (as := [(0, 0), (0, 19)]) hE lk_X11_304 (ct_X11_numeral l G hGd 0 19) dX11_readPart_42 rfl is_141 rfl (by decide) (Nat.le_of_ble_eq_true rfl) ⟨rfl, (NX_tk (gi17).1), (by omega), (by omega)⟩ rfl (fun r20 σ19 hr20 hor20 => ?_)
    obtain ⟨v21, rfl, hfσ19, hpr20⟩ := hr20
    have gi22 : RX r σ σ19 := RX_tr gi17 hpr20.2 (fun k_ j_ h_ => hfσ19 k_ j_ (by omega))
    refine pa_80 (pc' := 46) hE dX11_readPart_45 is_152 (by omega) trivial rfl (fun σ23 eσ23 => ?_)
    refine dk_aload_n (pc' := 47) hE dX11_readPart_46 rfl rfl rfl ?_
    refine gf_11_20 (pc' := 50) (w := 153) hE fl_X11_48 dX11_readPart_47 is_141 rfl rfl ?_
    refine dk_iload_n (pc' := 51) hE dX11_readPart_50 rfl rfl rfl ?_
    refine dk_aload_n (pc' := 52) hE dX11_readPart_51 rfl rfl rfl ?_
    refine dk_iconst (pc' := 53) hE dX11_readPart_52 (by decide) rfl ?_
    refine dk_bipush (pc' := 55) hE dX11_readPart_53 (by decide) rfl ?_
    have gi24 : RX r σ σ23 := RX_fr gi22 (fun k_ j_ h_ => by rw [eσ23, dk_up_n (show ¬ (k_ = 152 ∧ j_ = v5) by omega)])
    have hz25 : σ23 141 3 = σ 141 3 := by rw [eσ23, dk_up_n (show ¬ (141 = 152 ∧ 3 = v5) by omega), hfσ19 141 3 (by omega), hfσ15 141 3 (by omega), hfσ8 141 3 (by omega)]
    refine dk_cV (pc' := 58) (as := [(0, 0), (0, 19)]) hE lk_X11_304 (ct_X11_numeral l G hGd 0 19) dX11_readPart_55 rfl is_141 rfl (by decide) (Nat.le_of_ble_eq_true rfl) ⟨rfl, (NX_tk (gi24).1), (by omega), (by omega)⟩ rfl (fun r27 σ26 hr27 hor27 => ?_)
    obtain ⟨v28, rfl, hfσ26, hpr27⟩ := hr27
    have gi29 : RX r σ σ26 := RX_tr gi24 hpr27.2 (fun k_ j_ h_ => hfσ26 k_ j_ (by omega))
    refine pa_81 (pc' := 59) hE dX11_readPart_58 is_153 (by omega) trivial rfl (fun σ30 eσ30 => ?_)
    refine dk_aload_n (pc' := 60) hE dX11_readPart_59 rfl rfl rfl ?_
    refine gf_11_21 (pc' := 63) (w := 154) hE fl_X11_51 dX11_readPart_60 is_141 rfl rfl ?_
    refine dk_iload_n (pc' := 64) hE dX11_readPart_63 rfl rfl rfl ?_
    refine dk_iconst (pc' := 65) hE dX11_readPart_64 (by decide) rfl ?_
    refine pa_82 (pc' := 66) hE dX11_readPart_65 is_154 (by omega) (by omega) rfl (fun σ31 eσ31 => ?_)
    refine dk_aload_n (pc' := 67) hE dX11_readPart_66 rfl rfl rfl ?_
    refine gf_11_24 (pc' := 70) (w := 157) hE fl_X11_60 dX11_readPart_67 is_141 rfl rfl ?_
    refine dk_iload_n (pc' := 71) hE dX11_readPart_70 rfl rfl rfl ?_
    refine dk_iload_n (pc' := 72) hE dX11_readPart_71 rfl rfl rfl ?_
    refine pa_85 (pc' := 73) hE dX11_readPart_72 is_157 (by omega) (by omega) trivial rfl (fun σ32 eσ32 => ?_)
    refine dk_aload_n (pc' := 74) hE dX11_readPart_73 rfl rfl rfl ?_
    refine gf_11_18 (pc' := 77) (w := 151) hE fl_X11_42 dX11_readPart_74 is_141 rfl rfl ?_
    refine dk_iload_n (pc' := 78) hE dX11_readPart_77 rfl rfl rfl ?_
    refine dk_aload_n (pc' := 79) hE dX11_readPart_78 rfl rfl rfl ?_
    refine gf_11_12 (pc' := 82) (w := 145) hE fl_X11_24 dX11_readPart_79 is_141 rfl rfl ?_
    refine dk_aload_n (pc' := 83) hE dX11_readPart_82 rfl rfl rfl ?_
    refine gf_11_28 (pc' := 86) hE fl_X11_269 dX11_readPart_83 is_141 rfl (fun v33 hv33 htv33 hbv33 => ?_)
    have hq33 : r = v33 := (show v33 = r by rw [hv33, eσ32, dk_up_n (show ¬ (141 = 157 ∧ 28 = v5) by omega), eσ31, dk_up_n (show ¬ (141 = 154 ∧ 28 = v5) by omega), eσ30, dk_up_n (show ¬ (141 = 153 ∧ 28 = v5) by omega), hfσ26 141 28 (by omega), eσ23, dk_up_n (show ¬ (141 = 152 ∧ 28 = v5) by omega), hfσ19 141 28 (by omega), hfσ15 141 28 (by omega), hfσ8 141 28 (by omega), hv3]).symm
    subst hq33
    clear htv33 hbv33
    refine ga_73 (pc' := 87) hE dX11_readPart_86 is_145 (by omega) rfl (fun v34 hv34 htv34 hbv34 => ?_)
    have hq34 : w = v34 := (show v34 = w by rw [hv34, eσ32, dk_up_n (show ¬ (145 = 157 ∧ r = v5) by omega), eσ31, dk_up_n (show ¬ (145 = 154 ∧ r = v5) by omega), eσ30, dk_up_n (show ¬ (145 = 153 ∧ r = v5) by omega), hfσ26 145 r (by omega), eσ23, dk_up_n (show ¬ (145 = 152 ∧ r = v5) by omega), hfσ19 145 r (by omega), hfσ15 145 r (by omega), hfσ8 145 r (by omega), hw]).symm
    subst hq34
    clear htv34 hbv34
    refine dk_iconst (pc' := 88) hE dX11_readPart_87 (by decide) rfl ?_
    obtain ⟨v35, hv35⟩ : ∃ z : Int, z = w - 1 := ⟨_, rfl⟩
    refine dk_isub (pc' := 89) hE dX11_readPart_88 hv35.symm (by omega) rfl ?_
    refine pa_79 (pc' := 90) hE dX11_readPart_89 is_151 (by omega) (by omega) rfl (fun σ36 eσ36 => ?_)
    have hz37 : σ32 146 r = σ 146 r := by rw [eσ32, dk_up_n (show ¬ (146 = 157 ∧ r = v5) by omega), eσ31, dk_up_n (show ¬ (146 = 154 ∧ r = v5) by omega), eσ30, dk_up_n (show ¬ (146 = 153 ∧ r = v5) by omega), hfσ26 146 r (by omega), eσ23, dk_up_n (show ¬ (146 = 152 ∧ r = v5) by omega), hfσ19 146 r (by omega), hfσ15 146 r (by omega), hfσ8 146 r (by omega)]
    have gi38 : RX r σ σ32 := RX_fr gi29 (fun k_ j_ h_ => by rw [eσ32, dk_up_n (show ¬ (k_ = 157 ∧ j_ = v5) by omega), eσ31, dk_up_n (show ¬ (k_ = 154 ∧ j_ = v5) by omega), eσ30, dk_up_n (show ¬ (k_ = 153 ∧ j_ = v5) by omega)])
    have gi39 : RX r σ σ36 := ⟨NX_fr (gi38).1 (fun k_ j_ h_ => by rw [eσ36, dk_up_n (by omega)]), TI_151 (gi38).2 (by omega) (by omega) eσ36⟩
    refine dk_aload_n (pc' := 91) hE dX11_readPart_90 rfl rfl rfl ?_
    refine dk_cV (pc' := 94) (as := []) hE lk_X11_250 (ct_X11_isGood l G hGd) dX11_readPart_91 rfl is_141 rfl (by decide) (Nat.le_of_ble_eq_true rfl) rfl rfl (fun r41 σ40 hr41 hor41 => ?_)
    obtain ⟨v42, rfl, hfσ40, hpr41⟩ := hr41
    have hsσ40 : σ36 = σ40 := (funext (fun k => funext (fun j => hfσ40 k j not_false))).symm
    subst hsσ40
    rcases hpr41 with ⟨rfl, hpr41⟩ | ⟨rfl, hpr41⟩
    · skip
      refine dk_if_eq (tgt := 109) (pc' := 97) hE dX11_readPart_94 (by decide) rfl (fun hc43 => absurd hc43 (by decide)) (fun hc43 => ?_)
      refine dk_aload_n (pc' := 98) hE dX11_readPart_97 rfl rfl rfl ?_
      refine gf_11_8 (pc' := 101) hE fl_X11_222 dX11_readPart_98 is_141 rfl (fun v44 hv44 htv44 hbv44 => ?_)
      refine dk_iconst (pc' := 102) hE dX11_readPart_101 (by decide) rfl ?_
      refine dk_icmp_eq (tgt := 109) (pc' := 105) hE dX11_readPart_102 (by decide) rfl (fun hc45 => ?_) (fun hc45 => ?_)
      · skip
        have lp109 : ∀ (N_ : Nat) (σ109c : dkS), (6 * (1402 - σ109c 141 6) - σ109c 141 4).toNat < N_ → ((∀ k_ j_ : Int, ¬ ((k_ = 141 ∧ j_ = 4) ∨ (k_ = 141 ∧ j_ = 5) ∨ (k_ = 141 ∧ j_ = 6) ∨ (k_ = 141 ∧ j_ = 7) ∨ (k_ = 141 ∧ j_ = 8) ∨ (k_ = 141 ∧ j_ = 9) ∨ (k_ = 141 ∧ j_ = 10) ∨ (154 ≤ k_ ∧ k_ ≤ 155)) → σ109c k_ j_ = σ36 k_ j_)) → (RX r σ σ109c) → dk_PJ E 109 [(4, 141), (0, b), (0, v5)] [] 190 σ109c := by
          intro N109
          induction N109 with
          | zero => intro  σ109c hm; exact absurd hm (Nat.not_lt_zero _)
          | succ N109 ih109 =>
            intro  σ109c hm109 hF109 hG109 
            have hTK := NX_tk (hG109).1
            have hTK1 := hTK.1
            have hTK2 := hTK.2.1
            have hTK3 := (hG109).1.1
            refine dk_aload_n (pc' := 110) hE dX11_readPart_109 rfl rfl rfl ?_
            refine dk_cV (pc' := 113) (as := []) hE lk_X11_250 (ct_X11_isGood l G hGd) dX11_readPart_110 rfl is_141 rfl (by decide) (Nat.le_of_ble_eq_true rfl) rfl rfl (fun r47 σ46 hr47 hor47 => ?_)
            obtain ⟨v48, rfl, hfσ46, hpr47⟩ := hr47
            have hsσ46 : σ109c = σ46 := (funext (fun k => funext (fun j => hfσ46 k j not_false))).symm
            subst hsσ46
            rcases hpr47 with ⟨rfl, hpr47⟩ | ⟨rfl, hpr47⟩
            · skip
              refine dk_if_eq (tgt := 133) (pc' := 116) hE dX11_readPart_113 (by decide) rfl (fun hc49 => absurd hc49 (by decide)) (fun hc49 => ?_)
              refine dk_aload_n (pc' := 117) hE dX11_readPart_116 rfl rfl rfl ?_
              refine gf_11_8 (pc' := 120) hE fl_X11_222 dX11_readPart_117 is_141 rfl (fun v50 hv50 htv50 hbv50 => ?_)
              refine dk_iconst (pc' := 121) hE dX11_readPart_120 (by decide) rfl ?_
              refine dk_icmp_ne (tgt := 133) (pc' := 124) hE dX11_readPart_121 (by decide) rfl (fun hc51 => ?_) (fun hc51 => ?_)
              · skip
                refine dk_aload_n (pc' := 134) hE dX11_readPart_133 rfl rfl rfl ?_
                refine gf_11_13 (pc' := 137) (w := 146) hE fl_X11_27 dX11_readPart_134 is_141 rfl rfl ?_
                refine dk_aload_n (pc' := 138) hE dX11_readPart_137 rfl rfl rfl ?_
                refine gf_11_28 (pc' := 141) hE fl_X11_269 dX11_readPart_138 is_141 rfl (fun v52 hv52 htv52 hbv52 => ?_)
                have hq52 : r = v52 := (show v52 = r by rw [hv52, hF109 141 28 (by omega), eσ36, dk_up_n (show ¬ (141 = 151 ∧ 28 = v5) by omega), hv33]).symm
                subst hq52
                clear htv52 hbv52
                refine dk_dup2 (pc' := 142) hE dX11_readPart_141 (show (0 : Nat) ≠ 3 by decide) (show (4 : Nat) ≠ 3 by decide) rfl ?_
                refine ga_74 (pc' := 143) hE dX11_readPart_142 is_146 (by omega) rfl (fun v53 hv53 htv53 hbv53 => ?_)
                have hq53 : q = v53 := (show v53 = q by rw [hv53, hF109 146 r (by omega), eσ36, dk_up_n (show ¬ (146 = 151 ∧ r = v5) by omega), eσ32, dk_up_n (show ¬ (146 = 157 ∧ r = v5) by omega), eσ31, dk_up_n (show ¬ (146 = 154 ∧ r = v5) by omega), eσ30, dk_up_n (show ¬ (146 = 153 ∧ r = v5) by omega), hfσ26 146 r (by omega), eσ23, dk_up_n (show ¬ (146 = 152 ∧ r = v5) by omega), hfσ19 146 r (by omega), hfσ15 146 r (by omega), hfσ8 146 r (by omega), hv4]).symm
                subst hq53
                clear htv53 hbv53
                refine dk_iconst (pc' := 144) hE dX11_readPart_143 (by decide) rfl ?_
                obtain ⟨v54, hv54⟩ : ∃ z : Int, z = q + 1 := ⟨_, rfl⟩
                refine dk_iadd (pc' := 145) hE dX11_readPart_144 hv54.symm (by omega) rfl ?_
                refine pa_74 (pc' := 146) hE dX11_readPart_145 is_146 (by omega) (by omega) rfl (fun σ55 eσ55 => ?_)
                refine dk_aload_n (pc' := 147) hE dX11_readPart_146 rfl rfl rfl ?_
                refine gf_11_23 (pc' := 150) (w := 156) hE fl_X11_57 dX11_readPart_147 is_141 rfl rfl ?_
                refine dk_iconst (pc' := 151) hE dX11_readPart_150 (by decide) rfl ?_
                refine dk_aload_n (pc' := 152) hE dX11_readPart_151 rfl rfl rfl ?_
                refine gf_11_28 (pc' := 155) hE fl_X11_269 dX11_readPart_152 is_141 rfl (fun v56 hv56 htv56 hbv56 => ?_)
                have hq56 : r = v56 := (show v56 = r by rw [hv56, eσ55, dk_up_n (show ¬ (141 = 146 ∧ 28 = r) by omega), hv52]).symm
                subst hq56
                clear htv56 hbv56
                obtain ⟨v57, hv57⟩ : ∃ z : Int, z = 4 * r := ⟨_, rfl⟩
                refine dk_imul (pc' := 156) hE dX11_readPart_155 hv57.symm (by omega) rfl ?_
                refine dk_aload_n (pc' := 157) hE dX11_readPart_156 rfl rfl rfl ?_
                refine gf_11_12 (pc' := 160) (w := 145) hE fl_X11_24 dX11_readPart_157 is_141 rfl rfl ?_
                refine dk_aload_n (pc' := 161) hE dX11_readPart_160 rfl rfl rfl ?_
                refine gf_11_28 (pc' := 164) hE fl_X11_269 dX11_readPart_161 is_141 rfl (fun v58 hv58 htv58 hbv58 => ?_)
                have hq58 : r = v58 := (show v58 = r by rw [hv58, hv56]).symm
                subst hq58
                clear htv58 hbv58
                refine ga_73 (pc' := 165) hE dX11_readPart_164 is_145 (by omega) rfl (fun v59 hv59 htv59 hbv59 => ?_)
                have hq59 : w = v59 := (show v59 = w by rw [hv59, eσ55, dk_up_n (show ¬ (145 = 146 ∧ r = r) by omega), hF109 145 r (by omega), eσ36, dk_up_n (show ¬ (145 = 151 ∧ r = v5) by omega), hv34]).symm
                subst hq59
                clear htv59 hbv59
                obtain ⟨v60, hv60⟩ : ∃ z : Int, z = v57 + w := ⟨_, rfl⟩
                refine dk_iadd (pc' := 166) hE dX11_readPart_165 hv60.symm (by omega) rfl ?_
                refine dk_iconst (pc' := 167) hE dX11_readPart_166 (by decide) rfl ?_
                obtain ⟨v61, hv61⟩ : ∃ z : Int, z = v60 - 1 := ⟨_, rfl⟩
                refine dk_isub (pc' := 168) hE dX11_readPart_167 hv61.symm (by omega) rfl ?_
                refine dk_dup2 (pc' := 169) hE dX11_readPart_168 (show (0 : Nat) ≠ 3 by decide) (show (4 : Nat) ≠ 3 by decide) rfl ?_
                refine ga_84 (pc' := 170) hE dX11_readPart_169 is_156 (by omega) rfl (fun v62 hv62 htv62 hbv62 => ?_)
                have h8i := h8 v61 (by omega)
                have h8j : v62 = σ 156 v61 := by rw [hv62, eσ55, dk_up_n (show ¬ (156 = 146 ∧ v61 = r) by omega), hF109 156 v61 (by omega), eσ36, dk_up_n (show ¬ (156 = 151 ∧ v61 = v5) by omega), eσ32, dk_up_n (show ¬ (156 = 157 ∧ v61 = v5) by omega), eσ31, dk_up_n (show ¬ (156 = 154 ∧ v61 = v5) by omega), eσ30, dk_up_n (show ¬ (156 = 153 ∧ v61 = v5) by omega), hfσ26 156 v61 (by omega), eσ23, dk_up_n (show ¬ (156 = 152 ∧ v61 = v5) by omega), hfσ19 156 v61 (by omega), hfσ15 156 v61 (by omega), hfσ8 156 v61 (by omega)]
                refine dk_iconst (pc' := 171) hE dX11_readPart_170 (by decide) rfl ?_
                obtain ⟨v63, hv63⟩ : ∃ z : Int, z = v62 + 1 := ⟨_, rfl⟩
                refine dk_iadd (pc' := 172) hE dX11_readPart_171 hv63.symm (by omega) rfl ?_
                refine pa_84 (pc' := 173) hE dX11_readPart_172 is_156 (by omega) trivial rfl (fun σ64 eσ64 => ?_)
                have hz65 : σ109c 146 r = σ 146 r := by rw [hF109 146 r (by omega), eσ36, dk_up_n (show ¬ (146 = 151 ∧ r = v5) by omega), eσ32, dk_up_n (show ¬ (146 = 157 ∧ r = v5) by omega), eσ31, dk_up_n (show ¬ (146 = 154 ∧ r = v5) by omega), eσ30, dk_up_n (show ¬ (146 = 153 ∧ r = v5) by omega), hfσ26 146 r (by omega), eσ23, dk_up_n (show ¬ (146 = 152 ∧ r = v5) by omega), hfσ19 146 r (by omega), hfσ15 146 r (by omega), hfσ8 146 r (by omega)]
                have hz66 : σ109c 151 v5 = v35 := by rw [hF109 151 v5 (by omega), eσ36, dk_up_s]
                have hz67 : σ109c 156 v61 = σ 156 v61 := by rw [hF109 156 v61 (by omega), eσ36, dk_up_n (show ¬ (156 = 151 ∧ v61 = v5) by omega), eσ32, dk_up_n (show ¬ (156 = 157 ∧ v61 = v5) by omega), eσ31, dk_up_n (show ¬ (156 = 154 ∧ v61 = v5) by omega), eσ30, dk_up_n (show ¬ (156 = 153 ∧ v61 = v5) by omega), hfσ26 156 v61 (by omega), eσ23, dk_up_n (show ¬ (156 = 152 ∧ v61 = v5) by omega), hfσ19 156 v61 (by omega), hfσ15 156 v61 (by omega), hfσ8 156 v61 (by omega)]
                have gi68 : RX r σ σ64 := ⟨NX_fr (hG109).1 (fun k_ j_ h_ => by rw [eσ64, dk_up_n (by omega), eσ55, dk_up_n (by omega)]), TI_part (q := q) (w := w - 1) (p := v5) (hG109).2 (by omega) (by omega) (by omega) (by omega) (by omega) (by omega) hv62 (by omega) (by omega) (by omega) eσ55 eσ64⟩
                have hz69 : σ64 147 r = n + 1 := by rw [eσ64, dk_up_n (show ¬ (147 = 156 ∧ r = v61) by omega), eσ55, dk_up_n (show ¬ (147 = 146 ∧ r = r) by omega), hF109 147 r (by omega), eσ36, dk_up_n (show ¬ (147 = 151 ∧ r = v5) by omega), eσ32, dk_up_n (show ¬ (147 = 157 ∧ r = v5) by omega), eσ31, dk_up_n (show ¬ (147 = 154 ∧ r = v5) by omega), eσ30, dk_up_n (show ¬ (147 = 153 ∧ r = v5) by omega), hfσ26 147 r (by omega), eσ23, dk_up_n (show ¬ (147 = 152 ∧ r = v5) by omega), hfσ19 147 r (by omega), hfσ15 147 r (by omega), (hpr9.2).symm]
                have hz70 : σ64 146 r = v54 := by rw [eσ64, dk_up_n (show ¬ (146 = 156 ∧ r = v61) by omega), eσ55, dk_up_s]
                exact dk_vret (st := []) hE hR dX11_readPart_173 ⟨rfl, (fun k_ j_ h_ => by rw [eσ64, dk_up_n (show ¬ (k_ = 156 ∧ j_ = v61) from fun q_ => h_ (Or.inr (Or.inr (Or.inr (Or.inr (Or.inr (Or.inr (Or.inr (Or.inr (Or.inl (dk_wr (lo := 151) (hi := 157) q_.1 (by decide)))))))))))), eσ55, dk_up_n (show ¬ (k_ = 146 ∧ j_ = r) from fun q_ => h_ (Or.inr (Or.inr (Or.inr (Or.inr (Or.inr (Or.inr (Or.inr (Or.inl (dk_wr (lo := 146) (hi := 147) q_.1 (by decide))))))))))), hF109 k_ j_ (fun w_ => h_ (w_.elim (fun x0_ => Or.inl (x0_)) (fun y0_ => y0_.elim (fun x1_ => Or.inr (Or.inl (x1_))) (fun y1_ => y1_.elim (fun x2_ => Or.inr (Or.inr (Or.inl (x2_)))) (fun y2_ => y2_.elim (fun x3_ => Or.inr (Or.inr (Or.inr (Or.inl (x3_))))) (fun y3_ => y3_.elim (fun x4_ => Or.inr (Or.inr (Or.inr (Or.inr (Or.inl (x4_)))))) (fun y4_ => y4_.elim (fun x5_ => Or.inr (Or.inr (Or.inr (Or.inr (Or.inr (Or.inl (x5_))))))) (fun y5_ => y5_.elim (fun x6_ => Or.inr (Or.inr (Or.inr (Or.inr (Or.inr (Or.inr (Or.inl (x6_)))))))) (fun y6_ => Or.inr (Or.inr (Or.inr (Or.inr (Or.inr (Or.inr (Or.inr (Or.inr (Or.inl (dk_wrr (lo := 151) (hi := 157) y6_ (by decide) (by decide))))))))))))))))))), eσ36, dk_up_n (show ¬ (k_ = 151 ∧ j_ = v5) from fun q_ => h_ (Or.inr (Or.inr (Or.inr (Or.inr (Or.inr (Or.inr (Or.inr (Or.inr (Or.inl (dk_wr (lo := 151) (hi := 157) q_.1 (by decide)))))))))))), eσ32, dk_up_n (show ¬ (k_ = 157 ∧ j_ = v5) from fun q_ => h_ (Or.inr (Or.inr (Or.inr (Or.inr (Or.inr (Or.inr (Or.inr (Or.inr (Or.inl (dk_wr (lo := 151) (hi := 157) q_.1 (by decide)))))))))))), eσ31, dk_up_n (show ¬ (k_ = 154 ∧ j_ = v5) from fun q_ => h_ (Or.inr (Or.inr (Or.inr (Or.inr (Or.inr (Or.inr (Or.inr (Or.inr (Or.inl (dk_wr (lo := 151) (hi := 157) q_.1 (by decide)))))))))))), eσ30, dk_up_n (show ¬ (k_ = 153 ∧ j_ = v5) from fun q_ => h_ (Or.inr (Or.inr (Or.inr (Or.inr (Or.inr (Or.inr (Or.inr (Or.inr (Or.inl (dk_wr (lo := 151) (hi := 157) q_.1 (by decide)))))))))))), hfσ26 k_ j_ (fun w_ => h_ (w_.elim (fun x0_ => Or.inl (x0_)) (fun y0_ => y0_.elim (fun x1_ => Or.inr (Or.inl (x1_))) (fun y1_ => y1_.elim (fun x2_ => Or.inr (Or.inr (Or.inl (x2_)))) (fun y2_ => y2_.elim (fun x3_ => Or.inr (Or.inr (Or.inr (Or.inl (x3_))))) (fun y3_ => y3_.elim (fun x4_ => Or.inr (Or.inr (Or.inr (Or.inr (Or.inl (x4_)))))) (fun y4_ => y4_.elim (fun x5_ => Or.inr (Or.inr (Or.inr (Or.inr (Or.inr (Or.inl (x5_))))))) (fun y5_ => Or.inr (Or.inr (Or.inr (Or.inr (Or.inr (Or.inr (Or.inl (y5_))))))))))))))), eσ23, dk_up_n (show ¬ (k_ = 152 ∧ j_ = v5) from fun q_ => h_ (Or.inr (Or.inr (Or.inr (Or.inr (Or.inr (Or.inr (Or.inr (Or.inr (Or.inl (dk_wr (lo := 151) (hi := 157) q_.1 (by decide)))))))))))), hfσ19 k_ j_ (fun w_ => h_ (w_.elim (fun x0_ => Or.inl (x0_)) (fun y0_ => y0_.elim (fun x1_ => Or.inr (Or.inl (x1_))) (fun y1_ => y1_.elim (fun x2_ => Or.inr (Or.inr (Or.inl (x2_)))) (fun y2_ => y2_.elim (fun x3_ => Or.inr (Or.inr (Or.inr (Or.inl (x3_))))) (fun y3_ => y3_.elim (fun x4_ => Or.inr (Or.inr (Or.inr (Or.inr (Or.inl (x4_)))))) (fun y4_ => y4_.elim (fun x5_ => Or.inr (Or.inr (Or.inr (Or.inr (Or.inr (Or.inl (x5_))))))) (fun y5_ => Or.inr (Or.inr (Or.inr (Or.inr (Or.inr (Or.inr (Or.inl (y5_))))))))))))))), hfσ15 k_ j_ (fun w_ => h_ (w_.elim (fun x0_ => Or.inl (x0_)) (fun y0_ => y0_.elim (fun x1_ => Or.inr (Or.inl (x1_))) (fun y1_ => y1_.elim (fun x2_ => Or.inr (Or.inr (Or.inl (x2_)))) (fun y2_ => y2_.elim (fun x3_ => Or.inr (Or.inr (Or.inr (Or.inl (x3_))))) (fun y3_ => y3_.elim (fun x4_ => Or.inr (Or.inr (Or.inr (Or.inr (Or.inl (x4_)))))) (fun y4_ => y4_.elim (fun x5_ => Or.inr (Or.inr (Or.inr (Or.inr (Or.inr (Or.inl (x5_))))))) (fun y5_ => Or.inr (Or.inr (Or.inr (Or.inr (Or.inr (Or.inr (Or.inl (y5_))))))))))))))), hfσ8 k_ j_ (fun w_ => h_ (w_.elim (fun x0_ => Or.inl (x0_)) (fun y0_ => y0_.elim (fun x1_ => Or.inr (Or.inl (x1_))) (fun y1_ => y1_.elim (fun x2_ => Or.inr (Or.inr (Or.inl (x2_)))) (fun y2_ => y2_.elim (fun x3_ => Or.inr (Or.inr (Or.inr (Or.inl (x3_))))) (fun y3_ => y3_.elim (fun x4_ => Or.inr (Or.inr (Or.inr (Or.inr (Or.inl (x4_)))))) (fun y4_ => y4_.elim (fun x5_ => Or.inr (Or.inr (Or.inr (Or.inr (Or.inr (Or.inl (x5_))))))) (fun y5_ => y5_.elim (fun x6_ => Or.inr (Or.inr (Or.inr (Or.inr (Or.inr (Or.inr (Or.inl (x6_)))))))) (fun y6_ => y6_.elim (fun x7_ => Or.inr (Or.inr (Or.inr (Or.inr (Or.inr (Or.inr (Or.inr (Or.inl (dk_wr (lo := 146) (hi := 147) x7_ (by decide)))))))))) (fun y7_ => Or.inr (Or.inr (Or.inr (Or.inr (Or.inr (Or.inr (Or.inr (Or.inr (Or.inr (y7_)))))))))))))))))))]), ⟨gi68, by omega, by omega⟩⟩
              · skip
                refine dk_aload_n (pc' := 125) hE dX11_readPart_124 rfl rfl rfl ?_
                refine dk_iload_n (pc' := 126) hE dX11_readPart_125 rfl rfl rfl ?_
                refine dk_iload_n (pc' := 127) hE dX11_readPart_126 rfl rfl rfl ?_
                have hz71 : σ109c 141 3 = σ 141 3 := by rw [hF109 141 3 (by omega), eσ36, dk_up_n (show ¬ (141 = 151 ∧ 3 = v5) by omega), eσ32, dk_up_n (show ¬ (141 = 157 ∧ 3 = v5) by omega), eσ31, dk_up_n (show ¬ (141 = 154 ∧ 3 = v5) by omega), eσ30, dk_up_n (show ¬ (141 = 153 ∧ 3 = v5) by omega), hfσ26 141 3 (by omega), eσ23, dk_up_n (show ¬ (141 = 152 ∧ 3 = v5) by omega), hfσ19 141 3 (by omega), hfσ15 141 3 (by omega), hfσ8 141 3 (by omega)]
                refine dk_cV (pc' := 130) (as := [(0, v5), (0, b)]) hE lk_X11_311 (ct_X11_readSteps l G hGd v5 b) dX11_readPart_127 rfl is_141 rfl (by decide) (Nat.le_of_ble_eq_true rfl) ⟨rfl, (NX_tk (hG109).1), (by omega), (by omega)⟩ rfl (fun r73 σ72 hr73 hor73 => ?_)
                obtain ⟨rfl, hfσ72, hpr73⟩ := hr73
                have H127 := hpr73
                have gi74 : RX r σ σ72 := RX_tr hG109 hpr73.1 (fun k_ j_ h_ => hfσ72 k_ j_ (by omega))
                have hy_ := H127.2
                have hx_ := H127.1.2.2.1
                have hw_ := H127.1.2.2.2.2
                refine dk_goto (tgt := 109) hE dX11_readPart_130 (by decide) ?_
                exact ih109 σ72 (by omega) (fun k_ j_ h_ => by rw [hfσ72 k_ j_ (fun w_ => h_ (w_.elim (fun x0_ => Or.inl (x0_)) (fun y0_ => y0_.elim (fun x1_ => Or.inr (Or.inl (x1_))) (fun y1_ => y1_.elim (fun x2_ => Or.inr (Or.inr (Or.inl (x2_)))) (fun y2_ => y2_.elim (fun x3_ => Or.inr (Or.inr (Or.inr (Or.inl (x3_))))) (fun y3_ => y3_.elim (fun x4_ => Or.inr (Or.inr (Or.inr (Or.inr (Or.inl (x4_)))))) (fun y4_ => y4_.elim (fun x5_ => Or.inr (Or.inr (Or.inr (Or.inr (Or.inr (Or.inl (x5_))))))) (fun y5_ => y5_.elim (fun x6_ => Or.inr (Or.inr (Or.inr (Or.inr (Or.inr (Or.inr (Or.inl (x6_)))))))) (fun y6_ => Or.inr (Or.inr (Or.inr (Or.inr (Or.inr (Or.inr (Or.inr (y6_)))))))))))))))), hF109 k_ j_ (fun w_ => h_ (w_.elim (fun x0_ => Or.inl (x0_)) (fun y0_ => y0_.elim (fun x1_ => Or.inr (Or.inl (x1_))) (fun y1_ => y1_.elim (fun x2_ => Or.inr (Or.inr (Or.inl (x2_)))) (fun y2_ => y2_.elim (fun x3_ => Or.inr (Or.inr (Or.inr (Or.inl (x3_))))) (fun y3_ => y3_.elim (fun x4_ => Or.inr (Or.inr (Or.inr (Or.inr (Or.inl (x4_)))))) (fun y4_ => y4_.elim (fun x5_ => Or.inr (Or.inr (Or.inr (Or.inr (Or.inr (Or.inl (x5_))))))) (fun y5_ => y5_.elim (fun x6_ => Or.inr (Or.inr (Or.inr (Or.inr (Or.inr (Or.inr (Or.inl (x6_)))))))) (fun y6_ => Or.inr (Or.inr (Or.inr (Or.inr (Or.inr (Or.inr (Or.inr (y6_))))))))))))))))]) gi74
            · skip
              refine dk_if_eq (tgt := 133) (pc' := 116) hE dX11_readPart_113 (by decide) rfl (fun hc77 => ?_) (fun hc77 => absurd hc77 (by decide))
              refine dk_aload_n (pc' := 134) hE dX11_readPart_133 rfl rfl rfl ?_
              refine gf_11_13 (pc' := 137) (w := 146) hE fl_X11_27 dX11_readPart_134 is_141 rfl rfl ?_
              refine dk_aload_n (pc' := 138) hE dX11_readPart_137 rfl rfl rfl ?_
              refine gf_11_28 (pc' := 141) hE fl_X11_269 dX11_readPart_138 is_141 rfl (fun v78 hv78 htv78 hbv78 => ?_)
              have hq78 : r = v78 := (show v78 = r by rw [hv78, hF109 141 28 (by omega), eσ36, dk_up_n (show ¬ (141 = 151 ∧ 28 = v5) by omega), hv33]).symm
              subst hq78
              clear htv78 hbv78
              refine dk_dup2 (pc' := 142) hE dX11_readPart_141 (show (0 : Nat) ≠ 3 by decide) (show (4 : Nat) ≠ 3 by decide) rfl ?_
              refine ga_74 (pc' := 143) hE dX11_readPart_142 is_146 (by omega) rfl (fun v79 hv79 htv79 hbv79 => ?_)
              have hq79 : q = v79 := (show v79 = q by rw [hv79, hF109 146 r (by omega), eσ36, dk_up_n (show ¬ (146 = 151 ∧ r = v5) by omega), eσ32, dk_up_n (show ¬ (146 = 157 ∧ r = v5) by omega), eσ31, dk_up_n (show ¬ (146 = 154 ∧ r = v5) by omega), eσ30, dk_up_n (show ¬ (146 = 153 ∧ r = v5) by omega), hfσ26 146 r (by omega), eσ23, dk_up_n (show ¬ (146 = 152 ∧ r = v5) by omega), hfσ19 146 r (by omega), hfσ15 146 r (by omega), hfσ8 146 r (by omega), hv4]).symm
              subst hq79
              clear htv79 hbv79
              refine dk_iconst (pc' := 144) hE dX11_readPart_143 (by decide) rfl ?_
              obtain ⟨v80, hv80⟩ : ∃ z : Int, z = q + 1 := ⟨_, rfl⟩
              refine dk_iadd (pc' := 145) hE dX11_readPart_144 hv80.symm (by omega) rfl ?_
              refine pa_74 (pc' := 146) hE dX11_readPart_145 is_146 (by omega) (by omega) rfl (fun σ81 eσ81 => ?_)
              refine dk_aload_n (pc' := 147) hE dX11_readPart_146 rfl rfl rfl ?_
              refine gf_11_23 (pc' := 150) (w := 156) hE fl_X11_57 dX11_readPart_147 is_141 rfl rfl ?_
              refine dk_iconst (pc' := 151) hE dX11_readPart_150 (by decide) rfl ?_
              refine dk_aload_n (pc' := 152) hE dX11_readPart_151 rfl rfl rfl ?_
              refine gf_11_28 (pc' := 155) hE fl_X11_269 dX11_readPart_152 is_141 rfl (fun v82 hv82 htv82 hbv82 => ?_)
              have hq82 : r = v82 := (show v82 = r by rw [hv82, eσ81, dk_up_n (show ¬ (141 = 146 ∧ 28 = r) by omega), hv78]).symm
              subst hq82
              clear htv82 hbv82
              obtain ⟨v83, hv83⟩ : ∃ z : Int, z = 4 * r := ⟨_, rfl⟩
              refine dk_imul (pc' := 156) hE dX11_readPart_155 hv83.symm (by omega) rfl ?_
              refine dk_aload_n (pc' := 157) hE dX11_readPart_156 rfl rfl rfl ?_
              refine gf_11_12 (pc' := 160) (w := 145) hE fl_X11_24 dX11_readPart_157 is_141 rfl rfl ?_
              refine dk_aload_n (pc' := 161) hE dX11_readPart_160 rfl rfl rfl ?_
              refine gf_11_28 (pc' := 164) hE fl_X11_269 dX11_readPart_161 is_141 rfl (fun v84 hv84 htv84 hbv84 => ?_)
              have hq84 : r = v84 := (show v84 = r by rw [hv84, hv82]).symm
              subst hq84
              clear htv84 hbv84
              refine ga_73 (pc' := 165) hE dX11_readPart_164 is_145 (by omega) rfl (fun v85 hv85 htv85 hbv85 => ?_)
              have hq85 : w = v85 := (show v85 = w by rw [hv85, eσ81, dk_up_n (show ¬ (145 = 146 ∧ r = r) by omega), hF109 145 r (by omega), eσ36, dk_up_n (show ¬ (145 = 151 ∧ r = v5) by omega), hv34]).symm
              subst hq85
              clear htv85 hbv85
              obtain ⟨v86, hv86⟩ : ∃ z : Int, z = v83 + w := ⟨_, rfl⟩
              refine dk_iadd (pc' := 166) hE dX11_readPart_165 hv86.symm (by omega) rfl ?_
              refine dk_iconst (pc' := 167) hE dX11_readPart_166 (by decide) rfl ?_
              obtain ⟨v87, hv87⟩ : ∃ z : Int, z = v86 - 1 := ⟨_, rfl⟩
              refine dk_isub (pc' := 168) hE dX11_readPart_167 hv87.symm (by omega) rfl ?_
              refine dk_dup2 (pc' := 169) hE dX11_readPart_168 (show (0 : Nat) ≠ 3 by decide) (show (4 : Nat) ≠ 3 by decide) rfl ?_
              refine ga_84 (pc' := 170) hE dX11_readPart_169 is_156 (by omega) rfl (fun v88 hv88 htv88 hbv88 => ?_)
              have h8i := h8 v87 (by omega)
              have h8j : v88 = σ 156 v87 := by rw [hv88, eσ81, dk_up_n (show ¬ (156 = 146 ∧ v87 = r) by omega), hF109 156 v87 (by omega), eσ36, dk_up_n (show ¬ (156 = 151 ∧ v87 = v5) by omega), eσ32, dk_up_n (show ¬ (156 = 157 ∧ v87 = v5) by omega), eσ31, dk_up_n (show ¬ (156 = 154 ∧ v87 = v5) by omega), eσ30, dk_up_n (show ¬ (156 = 153 ∧ v87 = v5) by omega), hfσ26 156 v87 (by omega), eσ23, dk_up_n (show ¬ (156 = 152 ∧ v87 = v5) by omega), hfσ19 156 v87 (by omega), hfσ15 156 v87 (by omega), hfσ8 156 v87 (by omega)]
              refine dk_iconst (pc' := 171) hE dX11_readPart_170 (by decide) rfl ?_
              obtain ⟨v89, hv89⟩ : ∃ z : Int, z = v88 + 1 := ⟨_, rfl⟩
              refine dk_iadd (pc' := 172) hE dX11_readPart_171 hv89.symm (by omega) rfl ?_
              refine pa_84 (pc' := 173) hE dX11_readPart_172 is_156 (by omega) trivial rfl (fun σ90 eσ90 => ?_)
              have hz91 : σ109c 146 r = σ 146 r := by rw [hF109 146 r (by omega), eσ36, dk_up_n (show ¬ (146 = 151 ∧ r = v5) by omega), eσ32, dk_up_n (show ¬ (146 = 157 ∧ r = v5) by omega), eσ31, dk_up_n (show ¬ (146 = 154 ∧ r = v5) by omega), eσ30, dk_up_n (show ¬ (146 = 153 ∧ r = v5) by omega), hfσ26 146 r (by omega), eσ23, dk_up_n (show ¬ (146 = 152 ∧ r = v5) by omega), hfσ19 146 r (by omega), hfσ15 146 r (by omega), hfσ8 146 r (by omega)]
              have hz92 : σ109c 151 v5 = v35 := by rw [hF109 151 v5 (by omega), eσ36, dk_up_s]
              have hz93 : σ109c 156 v87 = σ 156 v87 := by rw [hF109 156 v87 (by omega), eσ36, dk_up_n (show ¬ (156 = 151 ∧ v87 = v5) by omega), eσ32, dk_up_n (show ¬ (156 = 157 ∧ v87 = v5) by omega), eσ31, dk_up_n (show ¬ (156 = 154 ∧ v87 = v5) by omega), eσ30, dk_up_n (show ¬ (156 = 153 ∧ v87 = v5) by omega), hfσ26 156 v87 (by omega), eσ23, dk_up_n (show ¬ (156 = 152 ∧ v87 = v5) by omega), hfσ19 156 v87 (by omega), hfσ15 156 v87 (by omega), hfσ8 156 v87 (by omega)]
              have gi94 : RX r σ σ90 := ⟨NX_fr (hG109).1 (fun k_ j_ h_ => by rw [eσ90, dk_up_n (by omega), eσ81, dk_up_n (by omega)]), TI_part (q := q) (w := w - 1) (p := v5) (hG109).2 (by omega) (by omega) (by omega) (by omega) (by omega) (by omega) hv88 (by omega) (by omega) (by omega) eσ81 eσ90⟩
              have hz95 : σ90 147 r = n + 1 := by rw [eσ90, dk_up_n (show ¬ (147 = 156 ∧ r = v87) by omega), eσ81, dk_up_n (show ¬ (147 = 146 ∧ r = r) by omega), hF109 147 r (by omega), eσ36, dk_up_n (show ¬ (147 = 151 ∧ r = v5) by omega), eσ32, dk_up_n (show ¬ (147 = 157 ∧ r = v5) by omega), eσ31, dk_up_n (show ¬ (147 = 154 ∧ r = v5) by omega), eσ30, dk_up_n (show ¬ (147 = 153 ∧ r = v5) by omega), hfσ26 147 r (by omega), eσ23, dk_up_n (show ¬ (147 = 152 ∧ r = v5) by omega), hfσ19 147 r (by omega), hfσ15 147 r (by omega), (hpr9.2).symm]
              have hz96 : σ90 146 r = v80 := by rw [eσ90, dk_up_n (show ¬ (146 = 156 ∧ r = v87) by omega), eσ81, dk_up_s]
              exact dk_vret (st := []) hE hR dX11_readPart_173 ⟨rfl, (fun k_ j_ h_ => by rw [eσ90, dk_up_n (show ¬ (k_ = 156 ∧ j_ = v87) from fun q_ => h_ (Or.inr (Or.inr (Or.inr (Or.inr (Or.inr (Or.inr (Or.inr (Or.inr (Or.inl (dk_wr (lo := 151) (hi := 157) q_.1 (by decide)))))))))))), eσ81, dk_up_n (show ¬ (k_ = 146 ∧ j_ = r) from fun q_ => h_ (Or.inr (Or.inr (Or.inr (Or.inr (Or.inr (Or.inr (Or.inr (Or.inl (dk_wr (lo := 146) (hi := 147) q_.1 (by decide))))))))))), hF109 k_ j_ (fun w_ => h_ (w_.elim (fun x0_ => Or.inl (x0_)) (fun y0_ => y0_.elim (fun x1_ => Or.inr (Or.inl (x1_))) (fun y1_ => y1_.elim (fun x2_ => Or.inr (Or.inr (Or.inl (x2_)))) (fun y2_ => y2_.elim (fun x3_ => Or.inr (Or.inr (Or.inr (Or.inl (x3_))))) (fun y3_ => y3_.elim (fun x4_ => Or.inr (Or.inr (Or.inr (Or.inr (Or.inl (x4_)))))) (fun y4_ => y4_.elim (fun x5_ => Or.inr (Or.inr (Or.inr (Or.inr (Or.inr (Or.inl (x5_))))))) (fun y5_ => y5_.elim (fun x6_ => Or.inr (Or.inr (Or.inr (Or.inr (Or.inr (Or.inr (Or.inl (x6_)))))))) (fun y6_ => Or.inr (Or.inr (Or.inr (Or.inr (Or.inr (Or.inr (Or.inr (Or.inr (Or.inl (dk_wrr (lo := 151) (hi := 157) y6_ (by decide) (by decide))))))))))))))))))), eσ36, dk_up_n (show ¬ (k_ = 151 ∧ j_ = v5) from fun q_ => h_ (Or.inr (Or.inr (Or.inr (Or.inr (Or.inr (Or.inr (Or.inr (Or.inr (Or.inl (dk_wr (lo := 151) (hi := 157) q_.1 (by decide)))))))))))), eσ32, dk_up_n (show ¬ (k_ = 157 ∧ j_ = v5) from fun q_ => h_ (Or.inr (Or.inr (Or.inr (Or.inr (Or.inr (Or.inr (Or.inr (Or.inr (Or.inl (dk_wr (lo := 151) (hi := 157) q_.1 (by decide)))))))))))), eσ31, dk_up_n (show ¬ (k_ = 154 ∧ j_ = v5) from fun q_ => h_ (Or.inr (Or.inr (Or.inr (Or.inr (Or.inr (Or.inr (Or.inr (Or.inr (Or.inl (dk_wr (lo := 151) (hi := 157) q_.1 (by decide)))))))))))), eσ30, dk_up_n (show ¬ (k_ = 153 ∧ j_ = v5) from fun q_ => h_ (Or.inr (Or.inr (Or.inr (Or.inr (Or.inr (Or.inr (Or.inr (Or.inr (Or.inl (dk_wr (lo := 151) (hi := 157) q_.1 (by decide)))))))))))), hfσ26 k_ j_ (fun w_ => h_ (w_.elim (fun x0_ => Or.inl (x0_)) (fun y0_ => y0_.elim (fun x1_ => Or.inr (Or.inl (x1_))) (fun y1_ => y1_.elim (fun x2_ => Or.inr (Or.inr (Or.inl (x2_)))) (fun y2_ => y2_.elim (fun x3_ => Or.inr (Or.inr (Or.inr (Or.inl (x3_))))) (fun y3_ => y3_.elim (fun x4_ => Or.inr (Or.inr (Or.inr (Or.inr (Or.inl (x4_)))))) (fun y4_ => y4_.elim (fun x5_ => Or.inr (Or.inr (Or.inr (Or.inr (Or.inr (Or.inl (x5_))))))) (fun y5_ => Or.inr (Or.inr (Or.inr (Or.inr (Or.inr (Or.inr (Or.inl (y5_))))))))))))))), eσ23, dk_up_n (show ¬ (k_ = 152 ∧ j_ = v5) from fun q_ => h_ (Or.inr (Or.inr (Or.inr (Or.inr (Or.inr (Or.inr (Or.inr (Or.inr (Or.inl (dk_wr (lo := 151) (hi := 157) q_.1 (by decide)))))))))))), hfσ19 k_ j_ (fun w_ => h_ (w_.elim (fun x0_ => Or.inl (x0_)) (fun y0_ => y0_.elim (fun x1_ => Or.inr (Or.inl (x1_))) (fun y1_ => y1_.elim (fun x2_ => Or.inr (Or.inr (Or.inl (x2_)))) (fun y2_ => y2_.elim (fun x3_ => Or.inr (Or.inr (Or.inr (Or.inl (x3_))))) (fun y3_ => y3_.elim (fun x4_ => Or.inr (Or.inr (Or.inr (Or.inr (Or.inl (x4_)))))) (fun y4_ => y4_.elim (fun x5_ => Or.inr (Or.inr (Or.inr (Or.inr (Or.inr (Or.inl (x5_))))))) (fun y5_ => Or.inr (Or.inr (Or.inr (Or.inr (Or.inr (Or.inr (Or.inl (y5_))))))))))))))), hfσ15 k_ j_ (fun w_ => h_ (w_.elim (fun x0_ => Or.inl (x0_)) (fun y0_ => y0_.elim (fun x1_ => Or.inr (Or.inl (x1_))) (fun y1_ => y1_.elim (fun x2_ => Or.inr (Or.inr (Or.inl (x2_)))) (fun y2_ => y2_.elim (fun x3_ => Or.inr (Or.inr (Or.inr (Or.inl (x3_))))) (fun y3_ => y3_.elim (fun x4_ => Or.inr (Or.inr (Or.inr (Or.inr (Or.inl (x4_)))))) (fun y4_ => y4_.elim (fun x5_ => Or.inr (Or.inr (Or.inr (Or.inr (Or.inr (Or.inl (x5_))))))) (fun y5_ => Or.inr (Or.inr (Or.inr (Or.inr (Or.inr (Or.inr (Or.inl (y5_))))))))))))))), hfσ8 k_ j_ (fun w_ => h_ (w_.elim (fun x0_ => Or.inl (x0_)) (fun y0_ => y0_.elim (fun x1_ => Or.inr (Or.inl (x1_))) (fun y1_ => y1_.elim (fun x2_ => Or.inr (Or.inr (Or.inl (x2_)))) (fun y2_ => y2_.elim (fun x3_ => Or.inr (Or.inr (Or.inr (Or.inl (x3_))))) (fun y3_ => y3_.elim (fun x4_ => Or.inr (Or.inr (Or.inr (Or.inr (Or.inl (x4_)))))) (fun y4_ => y4_.elim (fun x5_ => Or.inr (Or.inr (Or.inr (Or.inr (Or.inr (Or.inl (x5_))))))) (fun y5_ => y5_.elim (fun x6_ => Or.inr (Or.inr (Or.inr (Or.inr (Or.inr (Or.inr (Or.inl (x6_)))))))) (fun y6_ => y6_.elim (fun x7_ => Or.inr (Or.inr (Or.inr (Or.inr (Or.inr (Or.inr (Or.inr (Or.inl (dk_wr (lo := 146) (hi := 147) x7_ (by decide)))))))))) (fun y7_ => Or.inr (Or.inr (Or.inr (Or.inr (Or.inr (Or.inr (Or.inr (Or.inr (Or.inr (y7_)))))))))))))))))))]), ⟨gi94, by omega, by omega⟩⟩
        exact lp109 _ σ36 (Nat.lt_succ_self _) (fun k_ j_ h_ => rfl) gi39
      · skip
        refine dk_aload_n (pc' := 106) hE dX11_readPart_105 rfl rfl rfl ?_
        refine dk_cV (pc' := 109) (as := []) hE lk_X11_257 (ct_X11_wrong l G hGd) dX11_readPart_106 rfl is_141 rfl (by decide) (Nat.le_of_ble_eq_true rfl) rfl rfl (fun r100 σ99 hr100 hor100 => ?_)
        obtain ⟨rfl, hfσ99, hpr100⟩ := hr100
        have gi101 : RX r σ σ99 := RX_f gi39 hfσ99 hpr100
        have lp109 : ∀ (N_ : Nat) (σ109c : dkS), (6 * (1402 - σ109c 141 6) - σ109c 141 4).toNat < N_ → ((∀ k_ j_ : Int, ¬ ((k_ = 141 ∧ j_ = 4) ∨ (k_ = 141 ∧ j_ = 5) ∨ (k_ = 141 ∧ j_ = 6) ∨ (k_ = 141 ∧ j_ = 7) ∨ (k_ = 141 ∧ j_ = 8) ∨ (k_ = 141 ∧ j_ = 9) ∨ (k_ = 141 ∧ j_ = 10) ∨ (154 ≤ k_ ∧ k_ ≤ 155)) → σ109c k_ j_ = σ99 k_ j_)) → (RX r σ σ109c) → dk_PJ E 109 [(4, 141), (0, b), (0, v5)] [] 190 σ109c := by
          intro N109
          induction N109 with
          | zero => intro  σ109c hm; exact absurd hm (Nat.not_lt_zero _)
          | succ N109 ih109 =>
            intro  σ109c hm109 hF109 hG109 
            have hTK := NX_tk (hG109).1
            have hTK1 := hTK.1
            have hTK2 := hTK.2.1
            have hTK3 := (hG109).1.1
            refine dk_aload_n (pc' := 110) hE dX11_readPart_109 rfl rfl rfl ?_
            refine dk_cV (pc' := 113) (as := []) hE lk_X11_250 (ct_X11_isGood l G hGd) dX11_readPart_110 rfl is_141 rfl (by decide) (Nat.le_of_ble_eq_true rfl) rfl rfl (fun r103 σ102 hr103 hor103 => ?_)
            obtain ⟨v104, rfl, hfσ102, hpr103⟩ := hr103
            have hsσ102 : σ109c = σ102 := (funext (fun k => funext (fun j => hfσ102 k j not_false))).symm
            subst hsσ102
            rcases hpr103 with ⟨rfl, hpr103⟩ | ⟨rfl, hpr103⟩
            · skip
              refine dk_if_eq (tgt := 133) (pc' := 116) hE dX11_readPart_113 (by decide) rfl (fun hc105 => absurd hc105 (by decide)) (fun hc105 => ?_)
              refine dk_aload_n (pc' := 117) hE dX11_readPart_116 rfl rfl rfl ?_
              refine gf_11_8 (pc' := 120) hE fl_X11_222 dX11_readPart_117 is_141 rfl (fun v106 hv106 htv106 hbv106 => ?_)
              refine dk_iconst (pc' := 121) hE dX11_readPart_120 (by decide) rfl ?_
              refine dk_icmp_ne (tgt := 133) (pc' := 124) hE dX11_readPart_121 (by decide) rfl (fun hc107 => ?_) (fun hc107 => ?_)
              · skip
                refine dk_aload_n (pc' := 134) hE dX11_readPart_133 rfl rfl rfl ?_
                refine gf_11_13 (pc' := 137) (w := 146) hE fl_X11_27 dX11_readPart_134 is_141 rfl rfl ?_
                refine dk_aload_n (pc' := 138) hE dX11_readPart_137 rfl rfl rfl ?_
                refine gf_11_28 (pc' := 141) hE fl_X11_269 dX11_readPart_138 is_141 rfl (fun v108 hv108 htv108 hbv108 => ?_)
                have hq108 : r = v108 := (show v108 = r by rw [hv108, hF109 141 28 (by omega), hfσ99 141 28 (by omega), eσ36, dk_up_n (show ¬ (141 = 151 ∧ 28 = v5) by omega), hv33]).symm
                subst hq108
                clear htv108 hbv108
                refine dk_dup2 (pc' := 142) hE dX11_readPart_141 (show (0 : Nat) ≠ 3 by decide) (show (4 : Nat) ≠ 3 by decide) rfl ?_
                refine ga_74 (pc' := 143) hE dX11_readPart_142 is_146 (by omega) rfl (fun v109 hv109 htv109 hbv109 => ?_)
                have hq109 : q = v109 := (show v109 = q by rw [hv109, hF109 146 r (by omega), hfσ99 146 r (by omega), eσ36, dk_up_n (show ¬ (146 = 151 ∧ r = v5) by omega), eσ32, dk_up_n (show ¬ (146 = 157 ∧ r = v5) by omega), eσ31, dk_up_n (show ¬ (146 = 154 ∧ r = v5) by omega), eσ30, dk_up_n (show ¬ (146 = 153 ∧ r = v5) by omega), hfσ26 146 r (by omega), eσ23, dk_up_n (show ¬ (146 = 152 ∧ r = v5) by omega), hfσ19 146 r (by omega), hfσ15 146 r (by omega), hfσ8 146 r (by omega), hv4]).symm
                subst hq109
                clear htv109 hbv109
                refine dk_iconst (pc' := 144) hE dX11_readPart_143 (by decide) rfl ?_
                obtain ⟨v110, hv110⟩ : ∃ z : Int, z = q + 1 := ⟨_, rfl⟩
                refine dk_iadd (pc' := 145) hE dX11_readPart_144 hv110.symm (by omega) rfl ?_
                refine pa_74 (pc' := 146) hE dX11_readPart_145 is_146 (by omega) (by omega) rfl (fun σ111 eσ111 => ?_)
                refine dk_aload_n (pc' := 147) hE dX11_readPart_146 rfl rfl rfl ?_
                refine gf_11_23 (pc' := 150) (w := 156) hE fl_X11_57 dX11_readPart_147 is_141 rfl rfl ?_
                refine dk_iconst (pc' := 151) hE dX11_readPart_150 (by decide) rfl ?_
                refine dk_aload_n (pc' := 152) hE dX11_readPart_151 rfl rfl rfl ?_
                refine gf_11_28 (pc' := 155) hE fl_X11_269 dX11_readPart_152 is_141 rfl (fun v112 hv112 htv112 hbv112 => ?_)
                have hq112 : r = v112 := (show v112 = r by rw [hv112, eσ111, dk_up_n (show ¬ (141 = 146 ∧ 28 = r) by omega), hv108]).symm
                subst hq112
                clear htv112 hbv112
                obtain ⟨v113, hv113⟩ : ∃ z : Int, z = 4 * r := ⟨_, rfl⟩
                refine dk_imul (pc' := 156) hE dX11_readPart_155 hv113.symm (by omega) rfl ?_
                refine dk_aload_n (pc' := 157) hE dX11_readPart_156 rfl rfl rfl ?_
                refine gf_11_12 (pc' := 160) (w := 145) hE fl_X11_24 dX11_readPart_157 is_141 rfl rfl ?_
                refine dk_aload_n (pc' := 161) hE dX11_readPart_160 rfl rfl rfl ?_
                refine gf_11_28 (pc' := 164) hE fl_X11_269 dX11_readPart_161 is_141 rfl (fun v114 hv114 htv114 hbv114 => ?_)
                have hq114 : r = v114 := (show v114 = r by rw [hv114, hv112]).symm
                subst hq114
                clear htv114 hbv114
                refine ga_73 (pc' := 165) hE dX11_readPart_164 is_145 (by omega) rfl (fun v115 hv115 htv115 hbv115 => ?_)
                have hq115 : w = v115 := (show v115 = w by rw [hv115, eσ111, dk_up_n (show ¬ (145 = 146 ∧ r = r) by omega), hF109 145 r (by omega), hfσ99 145 r (by omega), eσ36, dk_up_n (show ¬ (145 = 151 ∧ r = v5) by omega), hv34]).symm
                subst hq115
                clear htv115 hbv115
                obtain ⟨v116, hv116⟩ : ∃ z : Int, z = v113 + w := ⟨_, rfl⟩
                refine dk_iadd (pc' := 166) hE dX11_readPart_165 hv116.symm (by omega) rfl ?_
                refine dk_iconst (pc' := 167) hE dX11_readPart_166 (by decide) rfl ?_
                obtain ⟨v117, hv117⟩ : ∃ z : Int, z = v116 - 1 := ⟨_, rfl⟩
                refine dk_isub (pc' := 168) hE dX11_readPart_167 hv117.symm (by omega) rfl ?_
                refine dk_dup2 (pc' := 169) hE dX11_readPart_168 (show (0 : Nat) ≠ 3 by decide) (show (4 : Nat) ≠ 3 by decide) rfl ?_
                refine ga_84 (pc' := 170) hE dX11_readPart_169 is_156 (by omega) rfl (fun v118 hv118 htv118 hbv118 => ?_)
                have h8i := h8 v117 (by omega)
                have h8j : v118 = σ 156 v117 := by rw [hv118, eσ111, dk_up_n (show ¬ (156 = 146 ∧ v117 = r) by omega), hF109 156 v117 (by omega), hfσ99 156 v117 (by omega), eσ36, dk_up_n (show ¬ (156 = 151 ∧ v117 = v5) by omega), eσ32, dk_up_n (show ¬ (156 = 157 ∧ v117 = v5) by omega), eσ31, dk_up_n (show ¬ (156 = 154 ∧ v117 = v5) by omega), eσ30, dk_up_n (show ¬ (156 = 153 ∧ v117 = v5) by omega), hfσ26 156 v117 (by omega), eσ23, dk_up_n (show ¬ (156 = 152 ∧ v117 = v5) by omega), hfσ19 156 v117 (by omega), hfσ15 156 v117 (by omega), hfσ8 156 v117 (by omega)]
                refine dk_iconst (pc' := 171) hE dX11_readPart_170 (by decide) rfl ?_
                obtain ⟨v119, hv119⟩ : ∃ z : Int, z = v118 + 1 := ⟨_, rfl⟩
                refine dk_iadd (pc' := 172) hE dX11_readPart_171 hv119.symm (by omega) rfl ?_
                refine pa_84 (pc' := 173) hE dX11_readPart_172 is_156 (by omega) trivial rfl (fun σ120 eσ120 => ?_)
                have hz121 : σ109c 146 r = σ 146 r := by rw [hF109 146 r (by omega), hfσ99 146 r (by omega), eσ36, dk_up_n (show ¬ (146 = 151 ∧ r = v5) by omega), eσ32, dk_up_n (show ¬ (146 = 157 ∧ r = v5) by omega), eσ31, dk_up_n (show ¬ (146 = 154 ∧ r = v5) by omega), eσ30, dk_up_n (show ¬ (146 = 153 ∧ r = v5) by omega), hfσ26 146 r (by omega), eσ23, dk_up_n (show ¬ (146 = 152 ∧ r = v5) by omega), hfσ19 146 r (by omega), hfσ15 146 r (by omega), hfσ8 146 r (by omega)]
                have hz122 : σ109c 151 v5 = v35 := by rw [hF109 151 v5 (by omega), hfσ99 151 v5 (by omega), eσ36, dk_up_s]
                have hz123 : σ109c 156 v117 = σ 156 v117 := by rw [hF109 156 v117 (by omega), hfσ99 156 v117 (by omega), eσ36, dk_up_n (show ¬ (156 = 151 ∧ v117 = v5) by omega), eσ32, dk_up_n (show ¬ (156 = 157 ∧ v117 = v5) by omega), eσ31, dk_up_n (show ¬ (156 = 154 ∧ v117 = v5) by omega), eσ30, dk_up_n (show ¬ (156 = 153 ∧ v117 = v5) by omega), hfσ26 156 v117 (by omega), eσ23, dk_up_n (show ¬ (156 = 152 ∧ v117 = v5) by omega), hfσ19 156 v117 (by omega), hfσ15 156 v117 (by omega), hfσ8 156 v117 (by omega)]
                have gi124 : RX r σ σ120 := ⟨NX_fr (hG109).1 (fun k_ j_ h_ => by rw [eσ120, dk_up_n (by omega), eσ111, dk_up_n (by omega)]), TI_part (q := q) (w := w - 1) (p := v5) (hG109).2 (by omega) (by omega) (by omega) (by omega) (by omega) (by omega) hv118 (by omega) (by omega) (by omega) eσ111 eσ120⟩
                have hz125 : σ120 147 r = n + 1 := by rw [eσ120, dk_up_n (show ¬ (147 = 156 ∧ r = v117) by omega), eσ111, dk_up_n (show ¬ (147 = 146 ∧ r = r) by omega), hF109 147 r (by omega), hfσ99 147 r (by omega), eσ36, dk_up_n (show ¬ (147 = 151 ∧ r = v5) by omega), eσ32, dk_up_n (show ¬ (147 = 157 ∧ r = v5) by omega), eσ31, dk_up_n (show ¬ (147 = 154 ∧ r = v5) by omega), eσ30, dk_up_n (show ¬ (147 = 153 ∧ r = v5) by omega), hfσ26 147 r (by omega), eσ23, dk_up_n (show ¬ (147 = 152 ∧ r = v5) by omega), hfσ19 147 r (by omega), hfσ15 147 r (by omega), (hpr9.2).symm]
                have hz126 : σ120 146 r = v110 := by rw [eσ120, dk_up_n (show ¬ (146 = 156 ∧ r = v117) by omega), eσ111, dk_up_s]
                exact dk_vret (st := []) hE hR dX11_readPart_173 ⟨rfl, (fun k_ j_ h_ => by rw [eσ120, dk_up_n (show ¬ (k_ = 156 ∧ j_ = v117) from fun q_ => h_ (Or.inr (Or.inr (Or.inr (Or.inr (Or.inr (Or.inr (Or.inr (Or.inr (Or.inl (dk_wr (lo := 151) (hi := 157) q_.1 (by decide)))))))))))), eσ111, dk_up_n (show ¬ (k_ = 146 ∧ j_ = r) from fun q_ => h_ (Or.inr (Or.inr (Or.inr (Or.inr (Or.inr (Or.inr (Or.inr (Or.inl (dk_wr (lo := 146) (hi := 147) q_.1 (by decide))))))))))), hF109 k_ j_ (fun w_ => h_ (w_.elim (fun x0_ => Or.inl (x0_)) (fun y0_ => y0_.elim (fun x1_ => Or.inr (Or.inl (x1_))) (fun y1_ => y1_.elim (fun x2_ => Or.inr (Or.inr (Or.inl (x2_)))) (fun y2_ => y2_.elim (fun x3_ => Or.inr (Or.inr (Or.inr (Or.inl (x3_))))) (fun y3_ => y3_.elim (fun x4_ => Or.inr (Or.inr (Or.inr (Or.inr (Or.inl (x4_)))))) (fun y4_ => y4_.elim (fun x5_ => Or.inr (Or.inr (Or.inr (Or.inr (Or.inr (Or.inl (x5_))))))) (fun y5_ => y5_.elim (fun x6_ => Or.inr (Or.inr (Or.inr (Or.inr (Or.inr (Or.inr (Or.inl (x6_)))))))) (fun y6_ => Or.inr (Or.inr (Or.inr (Or.inr (Or.inr (Or.inr (Or.inr (Or.inr (Or.inl (dk_wrr (lo := 151) (hi := 157) y6_ (by decide) (by decide))))))))))))))))))), hfσ99 k_ j_ (fun w_ => h_ (w_.elim (fun x0_ => Or.inl (x0_)) (fun y0_ => Or.inr (Or.inl (y0_))))), eσ36, dk_up_n (show ¬ (k_ = 151 ∧ j_ = v5) from fun q_ => h_ (Or.inr (Or.inr (Or.inr (Or.inr (Or.inr (Or.inr (Or.inr (Or.inr (Or.inl (dk_wr (lo := 151) (hi := 157) q_.1 (by decide)))))))))))), eσ32, dk_up_n (show ¬ (k_ = 157 ∧ j_ = v5) from fun q_ => h_ (Or.inr (Or.inr (Or.inr (Or.inr (Or.inr (Or.inr (Or.inr (Or.inr (Or.inl (dk_wr (lo := 151) (hi := 157) q_.1 (by decide)))))))))))), eσ31, dk_up_n (show ¬ (k_ = 154 ∧ j_ = v5) from fun q_ => h_ (Or.inr (Or.inr (Or.inr (Or.inr (Or.inr (Or.inr (Or.inr (Or.inr (Or.inl (dk_wr (lo := 151) (hi := 157) q_.1 (by decide)))))))))))), eσ30, dk_up_n (show ¬ (k_ = 153 ∧ j_ = v5) from fun q_ => h_ (Or.inr (Or.inr (Or.inr (Or.inr (Or.inr (Or.inr (Or.inr (Or.inr (Or.inl (dk_wr (lo := 151) (hi := 157) q_.1 (by decide)))))))))))), hfσ26 k_ j_ (fun w_ => h_ (w_.elim (fun x0_ => Or.inl (x0_)) (fun y0_ => y0_.elim (fun x1_ => Or.inr (Or.inl (x1_))) (fun y1_ => y1_.elim (fun x2_ => Or.inr (Or.inr (Or.inl (x2_)))) (fun y2_ => y2_.elim (fun x3_ => Or.inr (Or.inr (Or.inr (Or.inl (x3_))))) (fun y3_ => y3_.elim (fun x4_ => Or.inr (Or.inr (Or.inr (Or.inr (Or.inl (x4_)))))) (fun y4_ => y4_.elim (fun x5_ => Or.inr (Or.inr (Or.inr (Or.inr (Or.inr (Or.inl (x5_))))))) (fun y5_ => Or.inr (Or.inr (Or.inr (Or.inr (Or.inr (Or.inr (Or.inl (y5_))))))))))))))), eσ23, dk_up_n (show ¬ (k_ = 152 ∧ j_ = v5) from fun q_ => h_ (Or.inr (Or.inr (Or.inr (Or.inr (Or.inr (Or.inr (Or.inr (Or.inr (Or.inl (dk_wr (lo := 151) (hi := 157) q_.1 (by decide)))))))))))), hfσ19 k_ j_ (fun w_ => h_ (w_.elim (fun x0_ => Or.inl (x0_)) (fun y0_ => y0_.elim (fun x1_ => Or.inr (Or.inl (x1_))) (fun y1_ => y1_.elim (fun x2_ => Or.inr (Or.inr (Or.inl (x2_)))) (fun y2_ => y2_.elim (fun x3_ => Or.inr (Or.inr (Or.inr (Or.inl (x3_))))) (fun y3_ => y3_.elim (fun x4_ => Or.inr (Or.inr (Or.inr (Or.inr (Or.inl (x4_)))))) (fun y4_ => y4_.elim (fun x5_ => Or.inr (Or.inr (Or.inr (Or.inr (Or.inr (Or.inl (x5_))))))) (fun y5_ => Or.inr (Or.inr (Or.inr (Or.inr (Or.inr (Or.inr (Or.inl (y5_))))))))))))))), hfσ15 k_ j_ (fun w_ => h_ (w_.elim (fun x0_ => Or.inl (x0_)) (fun y0_ => y0_.elim (fun x1_ => Or.inr (Or.inl (x1_))) (fun y1_ => y1_.elim (fun x2_ => Or.inr (Or.inr (Or.inl (x2_)))) (fun y2_ => y2_.elim (fun x3_ => Or.inr (Or.inr (Or.inr (Or.inl (x3_))))) (fun y3_ => y3_.elim (fun x4_ => Or.inr (Or.inr (Or.inr (Or.inr (Or.inl (x4_)))))) (fun y4_ => y4_.elim (fun x5_ => Or.inr (Or.inr (Or.inr (Or.inr (Or.inr (Or.inl (x5_))))))) (fun y5_ => Or.inr (Or.inr (Or.inr (Or.inr (Or.inr (Or.inr (Or.inl (y5_))))))))))))))), hfσ8 k_ j_ (fun w_ => h_ (w_.elim (fun x0_ => Or.inl (x0_)) (fun y0_ => y0_.elim (fun x1_ => Or.inr (Or.inl (x1_))) (fun y1_ => y1_.elim (fun x2_ => Or.inr (Or.inr (Or.inl (x2_)))) (fun y2_ => y2_.elim (fun x3_ => Or.inr (Or.inr (Or.inr (Or.inl (x3_))))) (fun y3_ => y3_.elim (fun x4_ => Or.inr (Or.inr (Or.inr (Or.inr (Or.inl (x4_)))))) (fun y4_ => y4_.elim (fun x5_ => Or.inr (Or.inr (Or.inr (Or.inr (Or.inr (Or.inl (x5_))))))) (fun y5_ => y5_.elim (fun x6_ => Or.inr (Or.inr (Or.inr (Or.inr (Or.inr (Or.inr (Or.inl (x6_)))))))) (fun y6_ => y6_.elim (fun x7_ => Or.inr (Or.inr (Or.inr (Or.inr (Or.inr (Or.inr (Or.inr (Or.inl (dk_wr (lo := 146) (hi := 147) x7_ (by decide)))))))))) (fun y7_ => Or.inr (Or.inr (Or.inr (Or.inr (Or.inr (Or.inr (Or.inr (Or.inr (Or.inr (y7_)))))))))))))))))))]), ⟨gi124, by omega, by omega⟩⟩
              · skip
                refine dk_aload_n (pc' := 125) hE dX11_readPart_124 rfl rfl rfl ?_
                refine dk_iload_n (pc' := 126) hE dX11_readPart_125 rfl rfl rfl ?_
                refine dk_iload_n (pc' := 127) hE dX11_readPart_126 rfl rfl rfl ?_
                have hz127 : σ109c 141 3 = σ 141 3 := by rw [hF109 141 3 (by omega), hfσ99 141 3 (by omega), eσ36, dk_up_n (show ¬ (141 = 151 ∧ 3 = v5) by omega), eσ32, dk_up_n (show ¬ (141 = 157 ∧ 3 = v5) by omega), eσ31, dk_up_n (show ¬ (141 = 154 ∧ 3 = v5) by omega), eσ30, dk_up_n (show ¬ (141 = 153 ∧ 3 = v5) by omega), hfσ26 141 3 (by omega), eσ23, dk_up_n (show ¬ (141 = 152 ∧ 3 = v5) by omega), hfσ19 141 3 (by omega), hfσ15 141 3 (by omega), hfσ8 141 3 (by omega)]
                refine dk_cV (pc' := 130) (as := [(0, v5), (0, b)]) hE lk_X11_311 (ct_X11_readSteps l G hGd v5 b) dX11_readPart_127 rfl is_141 rfl (by decide) (Nat.le_of_ble_eq_true rfl) ⟨rfl, (NX_tk (hG109).1), (by omega), (by omega)⟩ rfl (fun r129 σ128 hr129 hor129 => ?_)
                obtain ⟨rfl, hfσ128, hpr129⟩ := hr129
                have H127 := hpr129
                have gi130 : RX r σ σ128 := RX_tr hG109 hpr129.1 (fun k_ j_ h_ => hfσ128 k_ j_ (by omega))
                have hy_ := H127.2
                have hx_ := H127.1.2.2.1
                have hw_ := H127.1.2.2.2.2
                refine dk_goto (tgt := 109) hE dX11_readPart_130 (by decide) ?_
                exact ih109 σ128 (by omega) (fun k_ j_ h_ => by rw [hfσ128 k_ j_ (fun w_ => h_ (w_.elim (fun x0_ => Or.inl (x0_)) (fun y0_ => y0_.elim (fun x1_ => Or.inr (Or.inl (x1_))) (fun y1_ => y1_.elim (fun x2_ => Or.inr (Or.inr (Or.inl (x2_)))) (fun y2_ => y2_.elim (fun x3_ => Or.inr (Or.inr (Or.inr (Or.inl (x3_))))) (fun y3_ => y3_.elim (fun x4_ => Or.inr (Or.inr (Or.inr (Or.inr (Or.inl (x4_)))))) (fun y4_ => y4_.elim (fun x5_ => Or.inr (Or.inr (Or.inr (Or.inr (Or.inr (Or.inl (x5_))))))) (fun y5_ => y5_.elim (fun x6_ => Or.inr (Or.inr (Or.inr (Or.inr (Or.inr (Or.inr (Or.inl (x6_)))))))) (fun y6_ => Or.inr (Or.inr (Or.inr (Or.inr (Or.inr (Or.inr (Or.inr (y6_)))))))))))))))), hF109 k_ j_ (fun w_ => h_ (w_.elim (fun x0_ => Or.inl (x0_)) (fun y0_ => y0_.elim (fun x1_ => Or.inr (Or.inl (x1_))) (fun y1_ => y1_.elim (fun x2_ => Or.inr (Or.inr (Or.inl (x2_)))) (fun y2_ => y2_.elim (fun x3_ => Or.inr (Or.inr (Or.inr (Or.inl (x3_))))) (fun y3_ => y3_.elim (fun x4_ => Or.inr (Or.inr (Or.inr (Or.inr (Or.inl (x4_)))))) (fun y4_ => y4_.elim (fun x5_ => Or.inr (Or.inr (Or.inr (Or.inr (Or.inr (Or.inl (x5_))))))) (fun y5_ => y5_.elim (fun x6_ => Or.inr (Or.inr (Or.inr (Or.inr (Or.inr (Or.inr (Or.inl (x6_)))))))) (fun y6_ => Or.inr (Or.inr (Or.inr (Or.inr (Or.inr (Or.inr (Or.inr (y6_))))))))))))))))]) gi130
            · skip
              refine dk_if_eq (tgt := 133) (pc' := 116) hE dX11_readPart_113 (by decide) rfl (fun hc133 => ?_) (fun hc133 => absurd hc133 (by decide))
              refine dk_aload_n (pc' := 134) hE dX11_readPart_133 rfl rfl rfl ?_
              refine gf_11_13 (pc' := 137) (w := 146) hE fl_X11_27 dX11_readPart_134 is_141 rfl rfl ?_
              refine dk_aload_n (pc' := 138) hE dX11_readPart_137 rfl rfl rfl ?_
              refine gf_11_28 (pc' := 141) hE fl_X11_269 dX11_readPart_138 is_141 rfl (fun v134 hv134 htv134 hbv134 => ?_)
              have hq134 : r = v134 := (show v134 = r by rw [hv134, hF109 141 28 (by omega), hfσ99 141 28 (by omega), eσ36, dk_up_n (show ¬ (141 = 151 ∧ 28 = v5) by omega), hv33]).symm
              subst hq134
              clear htv134 hbv134
              refine dk_dup2 (pc' := 142) hE dX11_readPart_141 (show (0 : Nat) ≠ 3 by decide) (show (4 : Nat) ≠ 3 by decide) rfl ?_
              refine ga_74 (pc' := 143) hE dX11_readPart_142 is_146 (by omega) rfl (fun v135 hv135 htv135 hbv135 => ?_)
              have hq135 : q = v135 := (show v135 = q by rw [hv135, hF109 146 r (by omega), hfσ99 146 r (by omega), eσ36, dk_up_n (show ¬ (146 = 151 ∧ r = v5) by omega), eσ32, dk_up_n (show ¬ (146 = 157 ∧ r = v5) by omega), eσ31, dk_up_n (show ¬ (146 = 154 ∧ r = v5) by omega), eσ30, dk_up_n (show ¬ (146 = 153 ∧ r = v5) by omega), hfσ26 146 r (by omega), eσ23, dk_up_n (show ¬ (146 = 152 ∧ r = v5) by omega), hfσ19 146 r (by omega), hfσ15 146 r (by omega), hfσ8 146 r (by omega), hv4]).symm
              subst hq135
              clear htv135 hbv135
              refine dk_iconst (pc' := 144) hE dX11_readPart_143 (by decide) rfl ?_
              obtain ⟨v136, hv136⟩ : ∃ z : Int, z = q + 1 := ⟨_, rfl⟩
              refine dk_iadd (pc' := 145) hE dX11_readPart_144 hv136.symm (by omega) rfl ?_
              refine pa_74 (pc' := 146) hE dX11_readPart_145 is_146 (by omega) (by omega) rfl (fun σ137 eσ137 => ?_)
              refine dk_aload_n (pc' := 147) hE dX11_readPart_146 rfl rfl rfl ?_
              refine gf_11_23 (pc' := 150) (w := 156) hE fl_X11_57 dX11_readPart_147 is_141 rfl rfl ?_
              refine dk_iconst (pc' := 151) hE dX11_readPart_150 (by decide) rfl ?_
              refine dk_aload_n (pc' := 152) hE dX11_readPart_151 rfl rfl rfl ?_
              refine gf_11_28 (pc' := 155) hE fl_X11_269 dX11_readPart_152 is_141 rfl (fun v138 hv138 htv138 hbv138 => ?_)
              have hq138 : r = v138 := (show v138 = r by rw [hv138, eσ137, dk_up_n (show ¬ (141 = 146 ∧ 28 = r) by omega), hv134]).symm
              subst hq138
              clear htv138 hbv138
              obtain ⟨v139, hv139⟩ : ∃ z : Int, z = 4 * r := ⟨_, rfl⟩
              refine dk_imul (pc' := 156) hE dX11_readPart_155 hv139.symm (by omega) rfl ?_
              refine dk_aload_n (pc' := 157) hE dX11_readPart_156 rfl rfl rfl ?_
              refine gf_11_12 (pc' := 160) (w := 145) hE fl_X11_24 dX11_readPart_157 is_141 rfl rfl ?_
              refine dk_aload_n (pc' := 161) hE dX11_readPart_160 rfl rfl rfl ?_
              refine gf_11_28 (pc' := 164) hE fl_X11_269 dX11_readPart_161 is_141 rfl (fun v140 hv140 htv140 hbv140 => ?_)
              have hq140 : r = v140 := (show v140 = r by rw [hv140, hv138]).symm
              subst hq140
              clear htv140 hbv140
              refine ga_73 (pc' := 165) hE dX11_readPart_164 is_145 (by omega) rfl (fun v141 hv141 htv141 hbv141 => ?_)
              have hq141 : w = v141 := (show v141 = w by rw [hv141, eσ137, dk_up_n (show ¬ (145 = 146 ∧ r = r) by omega), hF109 145 r (by omega), hfσ99 145 r (by omega), eσ36, dk_up_n (show ¬ (145 = 151 ∧ r = v5) by omega), hv34]).symm
              subst hq141
              clear htv141 hbv141
              obtain ⟨v142, hv142⟩ : ∃ z : Int, z = v139 + w := ⟨_, rfl⟩
              refine dk_iadd (pc' := 166) hE dX11_readPart_165 hv142.symm (by omega) rfl ?_
              refine dk_iconst (pc' := 167) hE dX11_readPart_166 (by decide) rfl ?_
              obtain ⟨v143, hv143⟩ : ∃ z : Int, z = v142 - 1 := ⟨_, rfl⟩
              refine dk_isub (pc' := 168) hE dX11_readPart_167 hv143.symm (by omega) rfl ?_
              refine dk_dup2 (pc' := 169) hE dX11_readPart_168 (show (0 : Nat) ≠ 3 by decide) (show (4 : Nat) ≠ 3 by decide) rfl ?_
              refine ga_84 (pc' := 170) hE dX11_readPart_169 is_156 (by omega) rfl (fun v144 hv144 htv144 hbv144 => ?_)
              have h8i := h8 v143 (by omega)
              have h8j : v144 = σ 156 v143 := by rw [hv144, eσ137, dk_up_n (show ¬ (156 = 146 ∧ v143 = r) by omega), hF109 156 v143 (by omega), hfσ99 156 v143 (by omega), eσ36, dk_up_n (show ¬ (156 = 151 ∧ v143 = v5) by omega), eσ32, dk_up_n (show ¬ (156 = 157 ∧ v143 = v5) by omega), eσ31, dk_up_n (show ¬ (156 = 154 ∧ v143 = v5) by omega), eσ30, dk_up_n (show ¬ (156 = 153 ∧ v143 = v5) by omega), hfσ26 156 v143 (by omega), eσ23, dk_up_n (show ¬ (156 = 152 ∧ v143 = v5) by omega), hfσ19 156 v143 (by omega), hfσ15 156 v143 (by omega), hfσ8 156 v143 (by omega)]
              refine dk_iconst (pc' := 171) hE dX11_readPart_170 (by decide) rfl ?_
              obtain ⟨v145, hv145⟩ : ∃ z : Int, z = v144 + 1 := ⟨_, rfl⟩
              refine dk_iadd (pc' := 172) hE dX11_readPart_171 hv145.symm (by omega) rfl ?_
              refine pa_84 (pc' := 173) hE dX11_readPart_172 is_156 (by omega) trivial rfl (fun σ146 eσ146 => ?_)
              have hz147 : σ109c 146 r = σ 146 r := by rw [hF109 146 r (by omega), hfσ99 146 r (by omega), eσ36, dk_up_n (show ¬ (146 = 151 ∧ r = v5) by omega), eσ32, dk_up_n (show ¬ (146 = 157 ∧ r = v5) by omega), eσ31, dk_up_n (show ¬ (146 = 154 ∧ r = v5) by omega), eσ30, dk_up_n (show ¬ (146 = 153 ∧ r = v5) by omega), hfσ26 146 r (by omega), eσ23, dk_up_n (show ¬ (146 = 152 ∧ r = v5) by omega), hfσ19 146 r (by omega), hfσ15 146 r (by omega), hfσ8 146 r (by omega)]
              have hz148 : σ109c 151 v5 = v35 := by rw [hF109 151 v5 (by omega), hfσ99 151 v5 (by omega), eσ36, dk_up_s]
              have hz149 : σ109c 156 v143 = σ 156 v143 := by rw [hF109 156 v143 (by omega), hfσ99 156 v143 (by omega), eσ36, dk_up_n (show ¬ (156 = 151 ∧ v143 = v5) by omega), eσ32, dk_up_n (show ¬ (156 = 157 ∧ v143 = v5) by omega), eσ31, dk_up_n (show ¬ (156 = 154 ∧ v143 = v5) by omega), eσ30, dk_up_n (show ¬ (156 = 153 ∧ v143 = v5) by omega), hfσ26 156 v143 (by omega), eσ23, dk_up_n (show ¬ (156 = 152 ∧ v143 = v5) by omega), hfσ19 156 v143 (by omega), hfσ15 156 v143 (by omega), hfσ8 156 v143 (by omega)]
              have gi150 : RX r σ σ146 := ⟨NX_fr (hG109).1 (fun k_ j_ h_ => by rw [eσ146, dk_up_n (by omega), eσ137, dk_up_n (by omega)]), TI_part (q := q) (w := w - 1) (p := v5) (hG109).2 (by omega) (by omega) (by omega) (by omega) (by omega) (by omega) hv144 (by omega) (by omega) (by omega) eσ137 eσ146⟩
              have hz151 : σ146 147 r = n + 1 := by rw [eσ146, dk_up_n (show ¬ (147 = 156 ∧ r = v143) by omega), eσ137, dk_up_n (show ¬ (147 = 146 ∧ r = r) by omega), hF109 147 r (by omega), hfσ99 147 r (by omega), eσ36, dk_up_n (show ¬ (147 = 151 ∧ r = v5) by omega), eσ32, dk_up_n (show ¬ (147 = 157 ∧ r = v5) by omega), eσ31, dk_up_n (show ¬ (147 = 154 ∧ r = v5) by omega), eσ30, dk_up_n (show ¬ (147 = 153 ∧ r = v5) by omega), hfσ26 147 r (by omega), eσ23, dk_up_n (show ¬ (147 = 152 ∧ r = v5) by omega), hfσ19 147 r (by omega), hfσ15 147 r (by omega), (hpr9.2).symm]
              have hz152 : σ146 146 r = v136 := by rw [eσ146, dk_up_n (show ¬ (146 = 156 ∧ r = v143) by omega), eσ137, dk_up_s]
              exact dk_vret (st := []) hE hR dX11_readPart_173 ⟨rfl, (fun k_ j_ h_ => by rw [eσ146, dk_up_n (show ¬ (k_ = 156 ∧ j_ = v143) from fun q_ => h_ (Or.inr (Or.inr (Or.inr (Or.inr (Or.inr (Or.inr (Or.inr (Or.inr (Or.inl (dk_wr (lo := 151) (hi := 157) q_.1 (by decide)))))))))))), eσ137, dk_up_n (show ¬ (k_ = 146 ∧ j_ = r) from fun q_ => h_ (Or.inr (Or.inr (Or.inr (Or.inr (Or.inr (Or.inr (Or.inr (Or.inl (dk_wr (lo := 146) (hi := 147) q_.1 (by decide))))))))))), hF109 k_ j_ (fun w_ => h_ (w_.elim (fun x0_ => Or.inl (x0_)) (fun y0_ => y0_.elim (fun x1_ => Or.inr (Or.inl (x1_))) (fun y1_ => y1_.elim (fun x2_ => Or.inr (Or.inr (Or.inl (x2_)))) (fun y2_ => y2_.elim (fun x3_ => Or.inr (Or.inr (Or.inr (Or.inl (x3_))))) (fun y3_ => y3_.elim (fun x4_ => Or.inr (Or.inr (Or.inr (Or.inr (Or.inl (x4_)))))) (fun y4_ => y4_.elim (fun x5_ => Or.inr (Or.inr (Or.inr (Or.inr (Or.inr (Or.inl (x5_))))))) (fun y5_ => y5_.elim (fun x6_ => Or.inr (Or.inr (Or.inr (Or.inr (Or.inr (Or.inr (Or.inl (x6_)))))))) (fun y6_ => Or.inr (Or.inr (Or.inr (Or.inr (Or.inr (Or.inr (Or.inr (Or.inr (Or.inl (dk_wrr (lo := 151) (hi := 157) y6_ (by decide) (by decide))))))))))))))))))), hfσ99 k_ j_ (fun w_ => h_ (w_.elim (fun x0_ => Or.inl (x0_)) (fun y0_ => Or.inr (Or.inl (y0_))))), eσ36, dk_up_n (show ¬ (k_ = 151 ∧ j_ = v5) from fun q_ => h_ (Or.inr (Or.inr (Or.inr (Or.inr (Or.inr (Or.inr (Or.inr (Or.inr (Or.inl (dk_wr (lo := 151) (hi := 157) q_.1 (by decide)))))))))))), eσ32, dk_up_n (show ¬ (k_ = 157 ∧ j_ = v5) from fun q_ => h_ (Or.inr (Or.inr (Or.inr (Or.inr (Or.inr (Or.inr (Or.inr (Or.inr (Or.inl (dk_wr (lo := 151) (hi := 157) q_.1 (by decide)))))))))))), eσ31, dk_up_n (show ¬ (k_ = 154 ∧ j_ = v5) from fun q_ => h_ (Or.inr (Or.inr (Or.inr (Or.inr (Or.inr (Or.inr (Or.inr (Or.inr (Or.inl (dk_wr (lo := 151) (hi := 157) q_.1 (by decide)))))))))))), eσ30, dk_up_n (show ¬ (k_ = 153 ∧ j_ = v5) from fun q_ => h_ (Or.inr (Or.inr (Or.inr (Or.inr (Or.inr (Or.inr (Or.inr (Or.inr (Or.inl (dk_wr (lo := 151) (hi := 157) q_.1 (by decide)))))))))))), hfσ26 k_ j_ (fun w_ => h_ (w_.elim (fun x0_ => Or.inl (x0_)) (fun y0_ => y0_.elim (fun x1_ => Or.inr (Or.inl (x1_))) (fun y1_ => y1_.elim (fun x2_ => Or.inr (Or.inr (Or.inl (x2_)))) (fun y2_ => y2_.elim (fun x3_ => Or.inr (Or.inr (Or.inr (Or.inl (x3_))))) (fun y3_ => y3_.elim (fun x4_ => Or.inr (Or.inr (Or.inr (Or.inr (Or.inl (x4_)))))) (fun y4_ => y4_.elim (fun x5_ => Or.inr (Or.inr (Or.inr (Or.inr (Or.inr (Or.inl (x5_))))))) (fun y5_ => Or.inr (Or.inr (Or.inr (Or.inr (Or.inr (Or.inr (Or.inl (y5_))))))))))))))), eσ23, dk_up_n (show ¬ (k_ = 152 ∧ j_ = v5) from fun q_ => h_ (Or.inr (Or.inr (Or.inr (Or.inr (Or.inr (Or.inr (Or.inr (Or.inr (Or.inl (dk_wr (lo := 151) (hi := 157) q_.1 (by decide)))))))))))), hfσ19 k_ j_ (fun w_ => h_ (w_.elim (fun x0_ => Or.inl (x0_)) (fun y0_ => y0_.elim (fun x1_ => Or.inr (Or.inl (x1_))) (fun y1_ => y1_.elim (fun x2_ => Or.inr (Or.inr (Or.inl (x2_)))) (fun y2_ => y2_.elim (fun x3_ => Or.inr (Or.inr (Or.inr (Or.inl (x3_))))) (fun y3_ => y3_.elim (fun x4_ => Or.inr (Or.inr (Or.inr (Or.inr (Or.inl (x4_)))))) (fun y4_ => y4_.elim (fun x5_ => Or.inr (Or.inr (Or.inr (Or.inr (Or.inr (Or.inl (x5_))))))) (fun y5_ => Or.inr (Or.inr (Or.inr (Or.inr (Or.inr (Or.inr (Or.inl (y5_))))))))))))))), hfσ15 k_ j_ (fun w_ => h_ (w_.elim (fun x0_ => Or.inl (x0_)) (fun y0_ => y0_.elim (fun x1_ => Or.inr (Or.inl (x1_))) (fun y1_ => y1_.elim (fun x2_ => Or.inr (Or.inr (Or.inl (x2_)))) (fun y2_ => y2_.elim (fun x3_ => Or.inr (Or.inr (Or.inr (Or.inl (x3_))))) (fun y3_ => y3_.elim (fun x4_ => Or.inr (Or.inr (Or.inr (Or.inr (Or.inl (x4_)))))) (fun y4_ => y4_.elim (fun x5_ => Or.inr (Or.inr (Or.inr (Or.inr (Or.inr (Or.inl (x5_))))))) (fun y5_ => Or.inr (Or.inr (Or.inr (Or.inr (Or.inr (Or.inr (Or.inl (y5_))))))))))))))), hfσ8 k_ j_ (fun w_ => h_ (w_.elim (fun x0_ => Or.inl (x0_)) (fun y0_ => y0_.elim (fun x1_ => Or.inr (Or.inl (x1_))) (fun y1_ => y1_.elim (fun x2_ => Or.inr (Or.inr (Or.inl (x2_)))) (fun y2_ => y2_.elim (fun x3_ => Or.inr (Or.inr (Or.inr (Or.inl (x3_))))) (fun y3_ => y3_.elim (fun x4_ => Or.inr (Or.inr (Or.inr (Or.inr (Or.inl (x4_)))))) (fun y4_ => y4_.elim (fun x5_ => Or.inr (Or.inr (Or.inr (Or.inr (Or.inr (Or.inl (x5_))))))) (fun y5_ => y5_.elim (fun x6_ => Or.inr (Or.inr (Or.inr (Or.inr (Or.inr (Or.inr (Or.inl (x6_)))))))) (fun y6_ => y6_.elim (fun x7_ => Or.inr (Or.inr (Or.inr (Or.inr (Or.inr (Or.inr (Or.inr (Or.inl (dk_wr (lo := 146) (hi := 147) x7_ (by decide)))))))))) (fun y7_ => Or.inr (Or.inr (Or.inr (Or.inr (Or.inr (Or.inr (Or.inr (Or.inr (Or.inr (y7_)))))))))))))))))))]), ⟨gi150, by omega, by omega⟩⟩
        exact lp109 _ σ99 (Nat.lt_succ_self _) (fun k_ j_ h_ => rfl) gi101
    · skip
      refine dk_if_eq (tgt := 109) (pc' := 97) hE dX11_readPart_94 (by decide) rfl (fun hc155 => ?_) (fun hc155 => absurd hc155 (by decide))
      have lp109 : ∀ (N_ : Nat) (σ109c : dkS), (6 * (1402 - σ109c 141 6) - σ109c 141 4).toNat < N_ → ((∀ k_ j_ : Int, ¬ ((k_ = 141 ∧ j_ = 4) ∨ (k_ = 141 ∧ j_ = 5) ∨ (k_ = 141 ∧ j_ = 6) ∨ (k_ = 141 ∧ j_ = 7) ∨ (k_ = 141 ∧ j_ = 8) ∨ (k_ = 141 ∧ j_ = 9) ∨ (k_ = 141 ∧ j_ = 10) ∨ (154 ≤ k_ ∧ k_ ≤ 155)) → σ109c k_ j_ = σ36 k_ j_)) → (RX r σ σ109c) → dk_PJ E 109 [(4, 141), (0, b), (0, v5)] [] 190 σ109c := by
        intro N109
        induction N109 with
        | zero => intro  σ109c hm; exact absurd hm (Nat.not_lt_zero _)
        | succ N109 ih109 =>
          intro  σ109c hm109 hF109 hG109 
          have hTK := NX_tk (hG109).1
          have hTK1 := hTK.1
          have hTK2 := hTK.2.1
          have hTK3 := (hG109).1.1
          refine dk_aload_n (pc' := 110) hE dX11_readPart_109 rfl rfl rfl ?_
          refine dk_cV (pc' := 113) (as := []) hE lk_X11_250 (ct_X11_isGood l G hGd) dX11_readPart_110 rfl is_141 rfl (by decide) (Nat.le_of_ble_eq_true rfl) rfl rfl (fun r157 σ156 hr157 hor157 => ?_)
          obtain ⟨v158, rfl, hfσ156, hpr157⟩ := hr157
          have hsσ156 : σ109c = σ156 := (funext (fun k => funext (fun j => hfσ156 k j not_false))).symm
          subst hsσ156
          rcases hpr157 with ⟨rfl, hpr157⟩ | ⟨rfl, hpr157⟩
          · skip
            refine dk_if_eq (tgt := 133) (pc' := 116) hE dX11_readPart_113 (by decide) rfl (fun hc159 => absurd hc159 (by decide)) (fun hc159 => ?_)
            refine dk_aload_n (pc' := 117) hE dX11_readPart_116 rfl rfl rfl ?_
            refine gf_11_8 (pc' := 120) hE fl_X11_222 dX11_readPart_117 is_141 rfl (fun v160 hv160 htv160 hbv160 => ?_)
            refine dk_iconst (pc' := 121) hE dX11_readPart_120 (by decide) rfl ?_
            refine dk_icmp_ne (tgt := 133) (pc' := 124) hE dX11_readPart_121 (by decide) rfl (fun hc161 => ?_) (fun hc161 => ?_)
            · skip
              refine dk_aload_n (pc' := 134) hE dX11_readPart_133 rfl rfl rfl ?_
              refine gf_11_13 (pc' := 137) (w := 146) hE fl_X11_27 dX11_readPart_134 is_141 rfl rfl ?_
              refine dk_aload_n (pc' := 138) hE dX11_readPart_137 rfl rfl rfl ?_
              refine gf_11_28 (pc' := 141) hE fl_X11_269 dX11_readPart_138 is_141 rfl (fun v162 hv162 htv162 hbv162 => ?_)
              have hq162 : r = v162 := (show v162 = r by rw [hv162, hF109 141 28 (by omega), eσ36, dk_up_n (show ¬ (141 = 151 ∧ 28 = v5) by omega), hv33]).symm
              subst hq162
              clear htv162 hbv162
              refine dk_dup2 (pc' := 142) hE dX11_readPart_141 (show (0 : Nat) ≠ 3 by decide) (show (4 : Nat) ≠ 3 by decide) rfl ?_
              refine ga_74 (pc' := 143) hE dX11_readPart_142 is_146 (by omega) rfl (fun v163 hv163 htv163 hbv163 => ?_)
              have hq163 : q = v163 := (show v163 = q by rw [hv163, hF109 146 r (by omega), eσ36, dk_up_n (show ¬ (146 = 151 ∧ r = v5) by omega), eσ32, dk_up_n (show ¬ (146 = 157 ∧ r = v5) by omega), eσ31, dk_up_n (show ¬ (146 = 154 ∧ r = v5) by omega), eσ30, dk_up_n (show ¬ (146 = 153 ∧ r = v5) by omega), hfσ26 146 r (by omega), eσ23, dk_up_n (show ¬ (146 = 152 ∧ r = v5) by omega), hfσ19 146 r (by omega), hfσ15 146 r (by omega), hfσ8 146 r (by omega), hv4]).symm
              subst hq163
              clear htv163 hbv163
              refine dk_iconst (pc' := 144) hE dX11_readPart_143 (by decide) rfl ?_
              obtain ⟨v164, hv164⟩ : ∃ z : Int, z = q + 1 := ⟨_, rfl⟩
              refine dk_iadd (pc' := 145) hE dX11_readPart_144 hv164.symm (by omega) rfl ?_
              refine pa_74 (pc' := 146) hE dX11_readPart_145 is_146 (by omega) (by omega) rfl (fun σ165 eσ165 => ?_)
              refine dk_aload_n (pc' := 147) hE dX11_readPart_146 rfl rfl rfl ?_
              refine gf_11_23 (pc' := 150) (w := 156) hE fl_X11_57 dX11_readPart_147 is_141 rfl rfl ?_
              refine dk_iconst (pc' := 151) hE dX11_readPart_150 (by decide) rfl ?_
              refine dk_aload_n (pc' := 152) hE dX11_readPart_151 rfl rfl rfl ?_
              refine gf_11_28 (pc' := 155) hE fl_X11_269 dX11_readPart_152 is_141 rfl (fun v166 hv166 htv166 hbv166 => ?_)
              have hq166 : r = v166 := (show v166 = r by rw [hv166, eσ165, dk_up_n (show ¬ (141 = 146 ∧ 28 = r) by omega), hv162]).symm
              subst hq166
              clear htv166 hbv166
              obtain ⟨v167, hv167⟩ : ∃ z : Int, z = 4 * r := ⟨_, rfl⟩
              refine dk_imul (pc' := 156) hE dX11_readPart_155 hv167.symm (by omega) rfl ?_
              refine dk_aload_n (pc' := 157) hE dX11_readPart_156 rfl rfl rfl ?_
              refine gf_11_12 (pc' := 160) (w := 145) hE fl_X11_24 dX11_readPart_157 is_141 rfl rfl ?_
              refine dk_aload_n (pc' := 161) hE dX11_readPart_160 rfl rfl rfl ?_
              refine gf_11_28 (pc' := 164) hE fl_X11_269 dX11_readPart_161 is_141 rfl (fun v168 hv168 htv168 hbv168 => ?_)
              have hq168 : r = v168 := (show v168 = r by rw [hv168, hv166]).symm
              subst hq168
              clear htv168 hbv168
              refine ga_73 (pc' := 165) hE dX11_readPart_164 is_145 (by omega) rfl (fun v169 hv169 htv169 hbv169 => ?_)
              have hq169 : w = v169 := (show v169 = w by rw [hv169, eσ165, dk_up_n (show ¬ (145 = 146 ∧ r = r) by omega), hF109 145 r (by omega), eσ36, dk_up_n (show ¬ (145 = 151 ∧ r = v5) by omega), hv34]).symm
              subst hq169
              clear htv169 hbv169
              obtain ⟨v170, hv170⟩ : ∃ z : Int, z = v167 + w := ⟨_, rfl⟩
              refine dk_iadd (pc' := 166) hE dX11_readPart_165 hv170.symm (by omega) rfl ?_
              refine dk_iconst (pc' := 167) hE dX11_readPart_166 (by decide) rfl ?_
              obtain ⟨v171, hv171⟩ : ∃ z : Int, z = v170 - 1 := ⟨_, rfl⟩
              refine dk_isub (pc' := 168) hE dX11_readPart_167 hv171.symm (by omega) rfl ?_
              refine dk_dup2 (pc' := 169) hE dX11_readPart_168 (show (0 : Nat) ≠ 3 by decide) (show (4 : Nat) ≠ 3 by decide) rfl ?_
              refine ga_84 (pc' := 170) hE dX11_readPart_169 is_156 (by omega) rfl (fun v172 hv172 htv172 hbv172 => ?_)
              have h8i := h8 v171 (by omega)
              have h8j : v172 = σ 156 v171 := by rw [hv172, eσ165, dk_up_n (show ¬ (156 = 146 ∧ v171 = r) by omega), hF109 156 v171 (by omega), eσ36, dk_up_n (show ¬ (156 = 151 ∧ v171 = v5) by omega), eσ32, dk_up_n (show ¬ (156 = 157 ∧ v171 = v5) by omega), eσ31, dk_up_n (show ¬ (156 = 154 ∧ v171 = v5) by omega), eσ30, dk_up_n (show ¬ (156 = 153 ∧ v171 = v5) by omega), hfσ26 156 v171 (by omega), eσ23, dk_up_n (show ¬ (156 = 152 ∧ v171 = v5) by omega), hfσ19 156 v171 (by omega), hfσ15 156 v171 (by omega), hfσ8 156 v171 (by omega)]
              refine dk_iconst (pc' := 171) hE dX11_readPart_170 (by decide) rfl ?_
              obtain ⟨v173, hv173⟩ : ∃ z : Int, z = v172 + 1 := ⟨_, rfl⟩
              refine dk_iadd (pc' := 172) hE dX11_readPart_171 hv173.symm (by omega) rfl ?_
              refine pa_84 (pc' := 173) hE dX11_readPart_172 is_156 (by omega) trivial rfl (fun σ174 eσ174 => ?_)
              have hz175 : σ109c 146 r = σ 146 r := by rw [hF109 146 r (by omega), eσ36, dk_up_n (show ¬ (146 = 151 ∧ r = v5) by omega), eσ32, dk_up_n (show ¬ (146 = 157 ∧ r = v5) by omega), eσ31, dk_up_n (show ¬ (146 = 154 ∧ r = v5) by omega), eσ30, dk_up_n (show ¬ (146 = 153 ∧ r = v5) by omega), hfσ26 146 r (by omega), eσ23, dk_up_n (show ¬ (146 = 152 ∧ r = v5) by omega), hfσ19 146 r (by omega), hfσ15 146 r (by omega), hfσ8 146 r (by omega)]
              have hz176 : σ109c 151 v5 = v35 := by rw [hF109 151 v5 (by omega), eσ36, dk_up_s]
              have hz177 : σ109c 156 v171 = σ 156 v171 := by rw [hF109 156 v171 (by omega), eσ36, dk_up_n (show ¬ (156 = 151 ∧ v171 = v5) by omega), eσ32, dk_up_n (show ¬ (156 = 157 ∧ v171 = v5) by omega), eσ31, dk_up_n (show ¬ (156 = 154 ∧ v171 = v5) by omega), eσ30, dk_up_n (show ¬ (156 = 153 ∧ v171 = v5) by omega), hfσ26 156 v171 (by omega), eσ23, dk_up_n (show ¬ (156 = 152 ∧ v171 = v5) by omega), hfσ19 156 v171 (by omega), hfσ15 156 v171 (by omega), hfσ8 156 v171 (by omega)]
              have gi178 : RX r σ σ174 := ⟨NX_fr (hG109).1 (fun k_ j_ h_ => by rw [eσ174, dk_up_n (by omega), eσ165, dk_up_n (by omega)]), TI_part (q := q) (w := w - 1) (p := v5) (hG109).2 (by omega) (by omega) (by omega) (by omega) (by omega) (by omega) hv172 (by omega) (by omega) (by omega) eσ165 eσ174⟩
              have hz179 : σ174 147 r = n + 1 := by rw [eσ174, dk_up_n (show ¬ (147 = 156 ∧ r = v171) by omega), eσ165, dk_up_n (show ¬ (147 = 146 ∧ r = r) by omega), hF109 147 r (by omega), eσ36, dk_up_n (show ¬ (147 = 151 ∧ r = v5) by omega), eσ32, dk_up_n (show ¬ (147 = 157 ∧ r = v5) by omega), eσ31, dk_up_n (show ¬ (147 = 154 ∧ r = v5) by omega), eσ30, dk_up_n (show ¬ (147 = 153 ∧ r = v5) by omega), hfσ26 147 r (by omega), eσ23, dk_up_n (show ¬ (147 = 152 ∧ r = v5) by omega), hfσ19 147 r (by omega), hfσ15 147 r (by omega), (hpr9.2).symm]
              have hz180 : σ174 146 r = v164 := by rw [eσ174, dk_up_n (show ¬ (146 = 156 ∧ r = v171) by omega), eσ165, dk_up_s]
              exact dk_vret (st := []) hE hR dX11_readPart_173 ⟨rfl, (fun k_ j_ h_ => by rw [eσ174, dk_up_n (show ¬ (k_ = 156 ∧ j_ = v171) from fun q_ => h_ (Or.inr (Or.inr (Or.inr (Or.inr (Or.inr (Or.inr (Or.inr (Or.inr (Or.inl (dk_wr (lo := 151) (hi := 157) q_.1 (by decide)))))))))))), eσ165, dk_up_n (show ¬ (k_ = 146 ∧ j_ = r) from fun q_ => h_ (Or.inr (Or.inr (Or.inr (Or.inr (Or.inr (Or.inr (Or.inr (Or.inl (dk_wr (lo := 146) (hi := 147) q_.1 (by decide))))))))))), hF109 k_ j_ (fun w_ => h_ (w_.elim (fun x0_ => Or.inl (x0_)) (fun y0_ => y0_.elim (fun x1_ => Or.inr (Or.inl (x1_))) (fun y1_ => y1_.elim (fun x2_ => Or.inr (Or.inr (Or.inl (x2_)))) (fun y2_ => y2_.elim (fun x3_ => Or.inr (Or.inr (Or.inr (Or.inl (x3_))))) (fun y3_ => y3_.elim (fun x4_ => Or.inr (Or.inr (Or.inr (Or.inr (Or.inl (x4_)))))) (fun y4_ => y4_.elim (fun x5_ => Or.inr (Or.inr (Or.inr (Or.inr (Or.inr (Or.inl (x5_))))))) (fun y5_ => y5_.elim (fun x6_ => Or.inr (Or.inr (Or.inr (Or.inr (Or.inr (Or.inr (Or.inl (x6_)))))))) (fun y6_ => Or.inr (Or.inr (Or.inr (Or.inr (Or.inr (Or.inr (Or.inr (Or.inr (Or.inl (dk_wrr (lo := 151) (hi := 157) y6_ (by decide) (by decide))))))))))))))))))), eσ36, dk_up_n (show ¬ (k_ = 151 ∧ j_ = v5) from fun q_ => h_ (Or.inr (Or.inr (Or.inr (Or.inr (Or.inr (Or.inr (Or.inr (Or.inr (Or.inl (dk_wr (lo := 151) (hi := 157) q_.1 (by decide)))))))))))), eσ32, dk_up_n (show ¬ (k_ = 157 ∧ j_ = v5) from fun q_ => h_ (Or.inr (Or.inr (Or.inr (Or.inr (Or.inr (Or.inr (Or.inr (Or.inr (Or.inl (dk_wr (lo := 151) (hi := 157) q_.1 (by decide)))))))))))), eσ31, dk_up_n (show ¬ (k_ = 154 ∧ j_ = v5) from fun q_ => h_ (Or.inr (Or.inr (Or.inr (Or.inr (Or.inr (Or.inr (Or.inr (Or.inr (Or.inl (dk_wr (lo := 151) (hi := 157) q_.1 (by decide)))))))))))), eσ30, dk_up_n (show ¬ (k_ = 153 ∧ j_ = v5) from fun q_ => h_ (Or.inr (Or.inr (Or.inr (Or.inr (Or.inr (Or.inr (Or.inr (Or.inr (Or.inl (dk_wr (lo := 151) (hi := 157) q_.1 (by decide)))))))))))), hfσ26 k_ j_ (fun w_ => h_ (w_.elim (fun x0_ => Or.inl (x0_)) (fun y0_ => y0_.elim (fun x1_ => Or.inr (Or.inl (x1_))) (fun y1_ => y1_.elim (fun x2_ => Or.inr (Or.inr (Or.inl (x2_)))) (fun y2_ => y2_.elim (fun x3_ => Or.inr (Or.inr (Or.inr (Or.inl (x3_))))) (fun y3_ => y3_.elim (fun x4_ => Or.inr (Or.inr (Or.inr (Or.inr (Or.inl (x4_)))))) (fun y4_ => y4_.elim (fun x5_ => Or.inr (Or.inr (Or.inr (Or.inr (Or.inr (Or.inl (x5_))))))) (fun y5_ => Or.inr (Or.inr (Or.inr (Or.inr (Or.inr (Or.inr (Or.inl (y5_))))))))))))))), eσ23, dk_up_n (show ¬ (k_ = 152 ∧ j_ = v5) from fun q_ => h_ (Or.inr (Or.inr (Or.inr (Or.inr (Or.inr (Or.inr (Or.inr (Or.inr (Or.inl (dk_wr (lo := 151) (hi := 157) q_.1 (by decide)))))))))))), hfσ19 k_ j_ (fun w_ => h_ (w_.elim (fun x0_ => Or.inl (x0_)) (fun y0_ => y0_.elim (fun x1_ => Or.inr (Or.inl (x1_))) (fun y1_ => y1_.elim (fun x2_ => Or.inr (Or.inr (Or.inl (x2_)))) (fun y2_ => y2_.elim (fun x3_ => Or.inr (Or.inr (Or.inr (Or.inl (x3_))))) (fun y3_ => y3_.elim (fun x4_ => Or.inr (Or.inr (Or.inr (Or.inr (Or.inl (x4_)))))) (fun y4_ => y4_.elim (fun x5_ => Or.inr (Or.inr (Or.inr (Or.inr (Or.inr (Or.inl (x5_))))))) (fun y5_ => Or.inr (Or.inr (Or.inr (Or.inr (Or.inr (Or.inr (Or.inl (y5_))))))))))))))), hfσ15 k_ j_ (fun w_ => h_ (w_.elim (fun x0_ => Or.inl (x0_)) (fun y0_ => y0_.elim (fun x1_ => Or.inr (Or.inl (x1_))) (fun y1_ => y1_.elim (fun x2_ => Or.inr (Or.inr (Or.inl (x2_)))) (fun y2_ => y2_.elim (fun x3_ => Or.inr (Or.inr (Or.inr (Or.inl (x3_))))) (fun y3_ => y3_.elim (fun x4_ => Or.inr (Or.inr (Or.inr (Or.inr (Or.inl (x4_)))))) (fun y4_ => y4_.elim (fun x5_ => Or.inr (Or.inr (Or.inr (Or.inr (Or.inr (Or.inl (x5_))))))) (fun y5_ => Or.inr (Or.inr (Or.inr (Or.inr (Or.inr (Or.inr (Or.inl (y5_))))))))))))))), hfσ8 k_ j_ (fun w_ => h_ (w_.elim (fun x0_ => Or.inl (x0_)) (fun y0_ => y0_.elim (fun x1_ => Or.inr (Or.inl (x1_))) (fun y1_ => y1_.elim (fun x2_ => Or.inr (Or.inr (Or.inl (x2_)))) (fun y2_ => y2_.elim (fun x3_ => Or.inr (Or.inr (Or.inr (Or.inl (x3_))))) (fun y3_ => y3_.elim (fun x4_ => Or.inr (Or.inr (Or.inr (Or.inr (Or.inl (x4_)))))) (fun y4_ => y4_.elim (fun x5_ => Or.inr (Or.inr (Or.inr (Or.inr (Or.inr (Or.inl (x5_))))))) (fun y5_ => y5_.elim (fun x6_ => Or.inr (Or.inr (Or.inr (Or.inr (Or.inr (Or.inr (Or.inl (x6_)))))))) (fun y6_ => y6_.elim (fun x7_ => Or.inr (Or.inr (Or.inr (Or.inr (Or.inr (Or.inr (Or.inr (Or.inl (dk_wr (lo := 146) (hi := 147) x7_ (by decide)))))))))) (fun y7_ => Or.inr (Or.inr (Or.inr (Or.inr (Or.inr (Or.inr (Or.inr (Or.inr (Or.inr (y7_)))))))))))))))))))]), ⟨gi178, by omega, by omega⟩⟩
            · skip
              refine dk_aload_n (pc' := 125) hE dX11_readPart_124 rfl rfl rfl ?_
              refine dk_iload_n (pc' := 126) hE dX11_readPart_125 rfl rfl rfl ?_
              refine dk_iload_n (pc' := 127) hE dX11_readPart_126 rfl rfl rfl ?_
              have hz181 : σ109c 141 3 = σ 141 3 := by rw [hF109 141 3 (by omega), eσ36, dk_up_n (show ¬ (141 = 151 ∧ 3 = v5) by omega), eσ32, dk_up_n (show ¬ (141 = 157 ∧ 3 = v5) by omega), eσ31, dk_up_n (show ¬ (141 = 154 ∧ 3 = v5) by omega), eσ30, dk_up_n (show ¬ (141 = 153 ∧ 3 = v5) by omega), hfσ26 141 3 (by omega), eσ23, dk_up_n (show ¬ (141 = 152 ∧ 3 = v5) by omega), hfσ19 141 3 (by omega), hfσ15 141 3 (by omega), hfσ8 141 3 (by omega)]
              refine dk_cV (pc' := 130) (as := [(0, v5), (0, b)]) hE lk_X11_311 (ct_X11_readSteps l G hGd v5 b) dX11_readPart_127 rfl is_141 rfl (by decide) (Nat.le_of_ble_eq_true rfl) ⟨rfl, (NX_tk (hG109).1), (by omega), (by omega)⟩ rfl (fun r183 σ182 hr183 hor183 => ?_)
              obtain ⟨rfl, hfσ182, hpr183⟩ := hr183
              have H127 := hpr183
              have gi184 : RX r σ σ182 := RX_tr hG109 hpr183.1 (fun k_ j_ h_ => hfσ182 k_ j_ (by omega))
              have hy_ := H127.2
              have hx_ := H127.1.2.2.1
              have hw_ := H127.1.2.2.2.2
              refine dk_goto (tgt := 109) hE dX11_readPart_130 (by decide) ?_
              exact ih109 σ182 (by omega) (fun k_ j_ h_ => by rw [hfσ182 k_ j_ (fun w_ => h_ (w_.elim (fun x0_ => Or.inl (x0_)) (fun y0_ => y0_.elim (fun x1_ => Or.inr (Or.inl (x1_))) (fun y1_ => y1_.elim (fun x2_ => Or.inr (Or.inr (Or.inl (x2_)))) (fun y2_ => y2_.elim (fun x3_ => Or.inr (Or.inr (Or.inr (Or.inl (x3_))))) (fun y3_ => y3_.elim (fun x4_ => Or.inr (Or.inr (Or.inr (Or.inr (Or.inl (x4_)))))) (fun y4_ => y4_.elim (fun x5_ => Or.inr (Or.inr (Or.inr (Or.inr (Or.inr (Or.inl (x5_))))))) (fun y5_ => y5_.elim (fun x6_ => Or.inr (Or.inr (Or.inr (Or.inr (Or.inr (Or.inr (Or.inl (x6_)))))))) (fun y6_ => Or.inr (Or.inr (Or.inr (Or.inr (Or.inr (Or.inr (Or.inr (y6_)))))))))))))))), hF109 k_ j_ (fun w_ => h_ (w_.elim (fun x0_ => Or.inl (x0_)) (fun y0_ => y0_.elim (fun x1_ => Or.inr (Or.inl (x1_))) (fun y1_ => y1_.elim (fun x2_ => Or.inr (Or.inr (Or.inl (x2_)))) (fun y2_ => y2_.elim (fun x3_ => Or.inr (Or.inr (Or.inr (Or.inl (x3_))))) (fun y3_ => y3_.elim (fun x4_ => Or.inr (Or.inr (Or.inr (Or.inr (Or.inl (x4_)))))) (fun y4_ => y4_.elim (fun x5_ => Or.inr (Or.inr (Or.inr (Or.inr (Or.inr (Or.inl (x5_))))))) (fun y5_ => y5_.elim (fun x6_ => Or.inr (Or.inr (Or.inr (Or.inr (Or.inr (Or.inr (Or.inl (x6_)))))))) (fun y6_ => Or.inr (Or.inr (Or.inr (Or.inr (Or.inr (Or.inr (Or.inr (y6_))))))))))))))))]) gi184
          · skip
            refine dk_if_eq (tgt := 133) (pc' := 116) hE dX11_readPart_113 (by decide) rfl (fun hc187 => ?_) (fun hc187 => absurd hc187 (by decide))
            refine dk_aload_n (pc' := 134) hE dX11_readPart_133 rfl rfl rfl ?_
            refine gf_11_13 (pc' := 137) (w := 146) hE fl_X11_27 dX11_readPart_134 is_141 rfl rfl ?_
            refine dk_aload_n (pc' := 138) hE dX11_readPart_137 rfl rfl rfl ?_
            refine gf_11_28 (pc' := 141) hE fl_X11_269 dX11_readPart_138 is_141 rfl (fun v188 hv188 htv188 hbv188 => ?_)
            have hq188 : r = v188 := (show v188 = r by rw [hv188, hF109 141 28 (by omega), eσ36, dk_up_n (show ¬ (141 = 151 ∧ 28 = v5) by omega), hv33]).symm
            subst hq188
            clear htv188 hbv188
            refine dk_dup2 (pc' := 142) hE dX11_readPart_141 (show (0 : Nat) ≠ 3 by decide) (show (4 : Nat) ≠ 3 by decide) rfl ?_
            refine ga_74 (pc' := 143) hE dX11_readPart_142 is_146 (by omega) rfl (fun v189 hv189 htv189 hbv189 => ?_)
            have hq189 : q = v189 := (show v189 = q by rw [hv189, hF109 146 r (by omega), eσ36, dk_up_n (show ¬ (146 = 151 ∧ r = v5) by omega), eσ32, dk_up_n (show ¬ (146 = 157 ∧ r = v5) by omega), eσ31, dk_up_n (show ¬ (146 = 154 ∧ r = v5) by omega), eσ30, dk_up_n (show ¬ (146 = 153 ∧ r = v5) by omega), hfσ26 146 r (by omega), eσ23, dk_up_n (show ¬ (146 = 152 ∧ r = v5) by omega), hfσ19 146 r (by omega), hfσ15 146 r (by omega), hfσ8 146 r (by omega), hv4]).symm
            subst hq189
            clear htv189 hbv189
            refine dk_iconst (pc' := 144) hE dX11_readPart_143 (by decide) rfl ?_
            obtain ⟨v190, hv190⟩ : ∃ z : Int, z = q + 1 := ⟨_, rfl⟩
            refine dk_iadd (pc' := 145) hE dX11_readPart_144 hv190.symm (by omega) rfl ?_
            refine pa_74 (pc' := 146) hE dX11_readPart_145 is_146 (by omega) (by omega) rfl (fun σ191 eσ191 => ?_)
            refine dk_aload_n (pc' := 147) hE dX11_readPart_146 rfl rfl rfl ?_
            refine gf_11_23 (pc' := 150) (w := 156) hE fl_X11_57 dX11_readPart_147 is_141 rfl rfl ?_
            refine dk_iconst (pc' := 151) hE dX11_readPart_150 (by decide) rfl ?_
            refine dk_aload_n (pc' := 152) hE dX11_readPart_151 rfl rfl rfl ?_
            refine gf_11_28 (pc' := 155) hE fl_X11_269 dX11_readPart_152 is_141 rfl (fun v192 hv192 htv192 hbv192 => ?_)
            have hq192 : r = v192 := (show v192 = r by rw [hv192, eσ191, dk_up_n (show ¬ (141 = 146 ∧ 28 = r) by omega), hv188]).symm
            subst hq192
            clear htv192 hbv192
            obtain ⟨v193, hv193⟩ : ∃ z : Int, z = 4 * r := ⟨_, rfl⟩
            refine dk_imul (pc' := 156) hE dX11_readPart_155 hv193.symm (by omega) rfl ?_
            refine dk_aload_n (pc' := 157) hE dX11_readPart_156 rfl rfl rfl ?_
            refine gf_11_12 (pc' := 160) (w := 145) hE fl_X11_24 dX11_readPart_157 is_141 rfl rfl ?_
            refine dk_aload_n (pc' := 161) hE dX11_readPart_160 rfl rfl rfl ?_
            refine gf_11_28 (pc' := 164) hE fl_X11_269 dX11_readPart_161 is_141 rfl (fun v194 hv194 htv194 hbv194 => ?_)
            have hq194 : r = v194 := (show v194 = r by rw [hv194, hv192]).symm
            subst hq194
            clear htv194 hbv194
            refine ga_73 (pc' := 165) hE dX11_readPart_164 is_145 (by omega) rfl (fun v195 hv195 htv195 hbv195 => ?_)
            have hq195 : w = v195 := (show v195 = w by rw [hv195, eσ191, dk_up_n (show ¬ (145 = 146 ∧ r = r) by omega), hF109 145 r (by omega), eσ36, dk_up_n (show ¬ (145 = 151 ∧ r = v5) by omega), hv34]).symm
            subst hq195
            clear htv195 hbv195
            obtain ⟨v196, hv196⟩ : ∃ z : Int, z = v193 + w := ⟨_, rfl⟩
            refine dk_iadd (pc' := 166) hE dX11_readPart_165 hv196.symm (by omega) rfl ?_
            refine dk_iconst (pc' := 167) hE dX11_readPart_166 (by decide) rfl ?_
            obtain ⟨v197, hv197⟩ : ∃ z : Int, z = v196 - 1 := ⟨_, rfl⟩
            refine dk_isub (pc' := 168) hE dX11_readPart_167 hv197.symm (by omega) rfl ?_
            refine dk_dup2 (pc' := 169) hE dX11_readPart_168 (show (0 : Nat) ≠ 3 by decide) (show (4 : Nat) ≠ 3 by decide) rfl ?_
            refine ga_84 (pc' := 170) hE dX11_readPart_169 is_156 (by omega) rfl (fun v198 hv198 htv198 hbv198 => ?_)
            have h8i := h8 v197 (by omega)
            have h8j : v198 = σ 156 v197 := by rw [hv198, eσ191, dk_up_n (show ¬ (156 = 146 ∧ v197 = r) by omega), hF109 156 v197 (by omega), eσ36, dk_up_n (show ¬ (156 = 151 ∧ v197 = v5) by omega), eσ32, dk_up_n (show ¬ (156 = 157 ∧ v197 = v5) by omega), eσ31, dk_up_n (show ¬ (156 = 154 ∧ v197 = v5) by omega), eσ30, dk_up_n (show ¬ (156 = 153 ∧ v197 = v5) by omega), hfσ26 156 v197 (by omega), eσ23, dk_up_n (show ¬ (156 = 152 ∧ v197 = v5) by omega), hfσ19 156 v197 (by omega), hfσ15 156 v197 (by omega), hfσ8 156 v197 (by omega)]
            refine dk_iconst (pc' := 171) hE dX11_readPart_170 (by decide) rfl ?_
            obtain ⟨v199, hv199⟩ : ∃ z : Int, z = v198 + 1 := ⟨_, rfl⟩
            refine dk_iadd (pc' := 172) hE dX11_readPart_171 hv199.symm (by omega) rfl ?_
            refine pa_84 (pc' := 173) hE dX11_readPart_172 is_156 (by omega) trivial rfl (fun σ200 eσ200 => ?_)
            have hz201 : σ109c 146 r = σ 146 r := by rw [hF109 146 r (by omega), eσ36, dk_up_n (show ¬ (146 = 151 ∧ r = v5) by omega), eσ32, dk_up_n (show ¬ (146 = 157 ∧ r = v5) by omega), eσ31, dk_up_n (show ¬ (146 = 154 ∧ r = v5) by omega), eσ30, dk_up_n (show ¬ (146 = 153 ∧ r = v5) by omega), hfσ26 146 r (by omega), eσ23, dk_up_n (show ¬ (146 = 152 ∧ r = v5) by omega), hfσ19 146 r (by omega), hfσ15 146 r (by omega), hfσ8 146 r (by omega)]
            have hz202 : σ109c 151 v5 = v35 := by rw [hF109 151 v5 (by omega), eσ36, dk_up_s]
            have hz203 : σ109c 156 v197 = σ 156 v197 := by rw [hF109 156 v197 (by omega), eσ36, dk_up_n (show ¬ (156 = 151 ∧ v197 = v5) by omega), eσ32, dk_up_n (show ¬ (156 = 157 ∧ v197 = v5) by omega), eσ31, dk_up_n (show ¬ (156 = 154 ∧ v197 = v5) by omega), eσ30, dk_up_n (show ¬ (156 = 153 ∧ v197 = v5) by omega), hfσ26 156 v197 (by omega), eσ23, dk_up_n (show ¬ (156 = 152 ∧ v197 = v5) by omega), hfσ19 156 v197 (by omega), hfσ15 156 v197 (by omega), hfσ8 156 v197 (by omega)]
            have gi204 : RX r σ σ200 := ⟨NX_fr (hG109).1 (fun k_ j_ h_ => by rw [eσ200, dk_up_n (by omega), eσ191, dk_up_n (by omega)]), TI_part (q := q) (w := w - 1) (p := v5) (hG109).2 (by omega) (by omega) (by omega) (by omega) (by omega) (by omega) hv198 (by omega) (by omega) (by omega) eσ191 eσ200⟩
            have hz205 : σ200 147 r = n + 1 := by rw [eσ200, dk_up_n (show ¬ (147 = 156 ∧ r = v197) by omega), eσ191, dk_up_n (show ¬ (147 = 146 ∧ r = r) by omega), hF109 147 r (by omega), eσ36, dk_up_n (show ¬ (147 = 151 ∧ r = v5) by omega), eσ32, dk_up_n (show ¬ (147 = 157 ∧ r = v5) by omega), eσ31, dk_up_n (show ¬ (147 = 154 ∧ r = v5) by omega), eσ30, dk_up_n (show ¬ (147 = 153 ∧ r = v5) by omega), hfσ26 147 r (by omega), eσ23, dk_up_n (show ¬ (147 = 152 ∧ r = v5) by omega), hfσ19 147 r (by omega), hfσ15 147 r (by omega), (hpr9.2).symm]
            have hz206 : σ200 146 r = v190 := by rw [eσ200, dk_up_n (show ¬ (146 = 156 ∧ r = v197) by omega), eσ191, dk_up_s]
            exact dk_vret (st := []) hE hR dX11_readPart_173 ⟨rfl, (fun k_ j_ h_ => by rw [eσ200, dk_up_n (show ¬ (k_ = 156 ∧ j_ = v197) from fun q_ => h_ (Or.inr (Or.inr (Or.inr (Or.inr (Or.inr (Or.inr (Or.inr (Or.inr (Or.inl (dk_wr (lo := 151) (hi := 157) q_.1 (by decide)))))))))))), eσ191, dk_up_n (show ¬ (k_ = 146 ∧ j_ = r) from fun q_ => h_ (Or.inr (Or.inr (Or.inr (Or.inr (Or.inr (Or.inr (Or.inr (Or.inl (dk_wr (lo := 146) (hi := 147) q_.1 (by decide))))))))))), hF109 k_ j_ (fun w_ => h_ (w_.elim (fun x0_ => Or.inl (x0_)) (fun y0_ => y0_.elim (fun x1_ => Or.inr (Or.inl (x1_))) (fun y1_ => y1_.elim (fun x2_ => Or.inr (Or.inr (Or.inl (x2_)))) (fun y2_ => y2_.elim (fun x3_ => Or.inr (Or.inr (Or.inr (Or.inl (x3_))))) (fun y3_ => y3_.elim (fun x4_ => Or.inr (Or.inr (Or.inr (Or.inr (Or.inl (x4_)))))) (fun y4_ => y4_.elim (fun x5_ => Or.inr (Or.inr (Or.inr (Or.inr (Or.inr (Or.inl (x5_))))))) (fun y5_ => y5_.elim (fun x6_ => Or.inr (Or.inr (Or.inr (Or.inr (Or.inr (Or.inr (Or.inl (x6_)))))))) (fun y6_ => Or.inr (Or.inr (Or.inr (Or.inr (Or.inr (Or.inr (Or.inr (Or.inr (Or.inl (dk_wrr (lo := 151) (hi := 157) y6_ (by decide) (by decide))))))))))))))))))), eσ36, dk_up_n (show ¬ (k_ = 151 ∧ j_ = v5) from fun q_ => h_ (Or.inr (Or.inr (Or.inr (Or.inr (Or.inr (Or.inr (Or.inr (Or.inr (Or.inl (dk_wr (lo := 151) (hi := 157) q_.1 (by decide)))))))))))), eσ32, dk_up_n (show ¬ (k_ = 157 ∧ j_ = v5) from fun q_ => h_ (Or.inr (Or.inr (Or.inr (Or.inr (Or.inr (Or.inr (Or.inr (Or.inr (Or.inl (dk_wr (lo := 151) (hi := 157) q_.1 (by decide)))))))))))), eσ31, dk_up_n (show ¬ (k_ = 154 ∧ j_ = v5) from fun q_ => h_ (Or.inr (Or.inr (Or.inr (Or.inr (Or.inr (Or.inr (Or.inr (Or.inr (Or.inl (dk_wr (lo := 151) (hi := 157) q_.1 (by decide)))))))))))), eσ30, dk_up_n (show ¬ (k_ = 153 ∧ j_ = v5) from fun q_ => h_ (Or.inr (Or.inr (Or.inr (Or.inr (Or.inr (Or.inr (Or.inr (Or.inr (Or.inl (dk_wr (lo := 151) (hi := 157) q_.1 (by decide)))))))))))), hfσ26 k_ j_ (fun w_ => h_ (w_.elim (fun x0_ => Or.inl (x0_)) (fun y0_ => y0_.elim (fun x1_ => Or.inr (Or.inl (x1_))) (fun y1_ => y1_.elim (fun x2_ => Or.inr (Or.inr (Or.inl (x2_)))) (fun y2_ => y2_.elim (fun x3_ => Or.inr (Or.inr (Or.inr (Or.inl (x3_))))) (fun y3_ => y3_.elim (fun x4_ => Or.inr (Or.inr (Or.inr (Or.inr (Or.inl (x4_)))))) (fun y4_ => y4_.elim (fun x5_ => Or.inr (Or.inr (Or.inr (Or.inr (Or.inr (Or.inl (x5_))))))) (fun y5_ => Or.inr (Or.inr (Or.inr (Or.inr (Or.inr (Or.inr (Or.inl (y5_))))))))))))))), eσ23, dk_up_n (show ¬ (k_ = 152 ∧ j_ = v5) from fun q_ => h_ (Or.inr (Or.inr (Or.inr (Or.inr (Or.inr (Or.inr (Or.inr (Or.inr (Or.inl (dk_wr (lo := 151) (hi := 157) q_.1 (by decide)))))))))))), hfσ19 k_ j_ (fun w_ => h_ (w_.elim (fun x0_ => Or.inl (x0_)) (fun y0_ => y0_.elim (fun x1_ => Or.inr (Or.inl (x1_))) (fun y1_ => y1_.elim (fun x2_ => Or.inr (Or.inr (Or.inl (x2_)))) (fun y2_ => y2_.elim (fun x3_ => Or.inr (Or.inr (Or.inr (Or.inl (x3_))))) (fun y3_ => y3_.elim (fun x4_ => Or.inr (Or.inr (Or.inr (Or.inr (Or.inl (x4_)))))) (fun y4_ => y4_.elim (fun x5_ => Or.inr (Or.inr (Or.inr (Or.inr (Or.inr (Or.inl (x5_))))))) (fun y5_ => Or.inr (Or.inr (Or.inr (Or.inr (Or.inr (Or.inr (Or.inl (y5_))))))))))))))), hfσ15 k_ j_ (fun w_ => h_ (w_.elim (fun x0_ => Or.inl (x0_)) (fun y0_ => y0_.elim (fun x1_ => Or.inr (Or.inl (x1_))) (fun y1_ => y1_.elim (fun x2_ => Or.inr (Or.inr (Or.inl (x2_)))) (fun y2_ => y2_.elim (fun x3_ => Or.inr (Or.inr (Or.inr (Or.inl (x3_))))) (fun y3_ => y3_.elim (fun x4_ => Or.inr (Or.inr (Or.inr (Or.inr (Or.inl (x4_)))))) (fun y4_ => y4_.elim (fun x5_ => Or.inr (Or.inr (Or.inr (Or.inr (Or.inr (Or.inl (x5_))))))) (fun y5_ => Or.inr (Or.inr (Or.inr (Or.inr (Or.inr (Or.inr (Or.inl (y5_))))))))))))))), hfσ8 k_ j_ (fun w_ => h_ (w_.elim (fun x0_ => Or.inl (x0_)) (fun y0_ => y0_.elim (fun x1_ => Or.inr (Or.inl (x1_))) (fun y1_ => y1_.elim (fun x2_ => Or.inr (Or.inr (Or.inl (x2_)))) (fun y2_ => y2_.elim (fun x3_ => Or.inr (Or.inr (Or.inr (Or.inl (x3_))))) (fun y3_ => y3_.elim (fun x4_ => Or.inr (Or.inr (Or.inr (Or.inr (Or.inl (x4_)))))) (fun y4_ => y4_.elim (fun x5_ => Or.inr (Or.inr (Or.inr (Or.inr (Or.inr (Or.inl (x5_))))))) (fun y5_ => y5_.elim (fun x6_ => Or.inr (Or.inr (Or.inr (Or.inr (Or.inr (Or.inr (Or.inl (x6_)))))))) (fun y6_ => y6_.elim (fun x7_ => Or.inr (Or.inr (Or.inr (Or.inr (Or.inr (Or.inr (Or.inr (Or.inl (dk_wr (lo := 146) (hi := 147) x7_ (by decide)))))))))) (fun y7_ => Or.inr (Or.inr (Or.inr (Or.inr (Or.inr (Or.inr (Or.inr (Or.inr (Or.inr (y7_)))))))))))))))))))]), ⟨gi204, by omega, by omega⟩⟩
      exact lp109 _ σ36 (Nat.lt_succ_self _) (fun k_ j_ h_ => rfl) gi39
  · skip
    have hz209 : σ8 141 3 = σ 141 3 := by rw [hfσ8 141 3 (by omega)]
    refine dk_cV (pc' := 33) (as := [(0, 0)]) hE lk_X11_301 (ct_X11_must l G hGd 0) dX11_readPart_30 rfl is_141 rfl (by decide) (Nat.le_of_ble_eq_true rfl) ⟨rfl, (NX_tk (gi10).1), (by omega)⟩ rfl (fun r211 σ210 hr211 hor211 => ?_)
    obtain ⟨rfl, hfσ210, hpr211⟩ := hr211
    have gi212 : RX r σ σ210 := RX_tr gi10 hpr211 (fun k_ j_ h_ => hfσ210 k_ j_ (by omega))
    refine dk_aload_n (pc' := 34) hE dX11_readPart_33 rfl rfl rfl ?_
    refine gf_11_19 (pc' := 37) (w := 152) hE fl_X11_45 dX11_readPart_34 is_141 rfl rfl ?_
    refine dk_iload_n (pc' := 38) hE dX11_readPart_37 rfl rfl rfl ?_
    refine dk_aload_n (pc' := 39) hE dX11_readPart_38 rfl rfl rfl ?_
    refine dk_iconst (pc' := 40) hE dX11_readPart_39 (by decide) rfl ?_
    refine dk_bipush (pc' := 42) hE dX11_readPart_40 (by decide) rfl ?_
    have hz213 : σ210 141 3 = σ 141 3 := by rw [hfσ210 141 3 (by omega), hfσ8 141 3 (by omega)]
    refine dk_cV (pc' := 45) (as := [(0, 0), (0, 19)]) hE lk_X11_304 (ct_X11_numeral l G hGd 0 19) dX11_readPart_42 rfl is_141 rfl (by decide) (Nat.le_of_ble_eq_true rfl) ⟨rfl, (NX_tk (gi212).1), (by omega), (by omega)⟩ rfl (fun r215 σ214 hr215 hor215 => ?_)
    obtain ⟨v216, rfl, hfσ214, hpr215⟩ := hr215
    have gi217 : RX r σ σ214 := RX_tr gi212 hpr215.2 (fun k_ j_ h_ => hfσ214 k_ j_ (by omega))
    refine pa_80 (pc' := 46) hE dX11_readPart_45 is_152 (by omega) trivial rfl (fun σ218 eσ218 => ?_)
    refine dk_aload_n (pc' := 47) hE dX11_readPart_46 rfl rfl rfl ?_
    refine gf_11_20 (pc' := 50) (w := 153) hE fl_X11_48 dX11_readPart_47 is_141 rfl rfl ?_
    refine dk_iload_n (pc' := 51) hE dX11_readPart_50 rfl rfl rfl ?_
    refine dk_aload_n (pc' := 52) hE dX11_readPart_51 rfl rfl rfl ?_
    refine dk_iconst (pc' := 53) hE dX11_readPart_52 (by decide) rfl ?_
    refine dk_bipush (pc' := 55) hE dX11_readPart_53 (by decide) rfl ?_
    have gi219 : RX r σ σ218 := RX_fr gi217 (fun k_ j_ h_ => by rw [eσ218, dk_up_n (show ¬ (k_ = 152 ∧ j_ = v5) by omega)])
    have hz220 : σ218 141 3 = σ 141 3 := by rw [eσ218, dk_up_n (show ¬ (141 = 152 ∧ 3 = v5) by omega), hfσ214 141 3 (by omega), hfσ210 141 3 (by omega), hfσ8 141 3 (by omega)]
    refine dk_cV (pc' := 58) (as := [(0, 0), (0, 19)]) hE lk_X11_304 (ct_X11_numeral l G hGd 0 19) dX11_readPart_55 rfl is_141 rfl (by decide) (Nat.le_of_ble_eq_true rfl) ⟨rfl, (NX_tk (gi219).1), (by omega), (by omega)⟩ rfl (fun r222 σ221 hr222 hor222 => ?_)
    obtain ⟨v223, rfl, hfσ221, hpr222⟩ := hr222
    have gi224 : RX r σ σ221 := RX_tr gi219 hpr222.2 (fun k_ j_ h_ => hfσ221 k_ j_ (by omega))
    refine pa_81 (pc' := 59) hE dX11_readPart_58 is_153 (by omega) trivial rfl (fun σ225 eσ225 => ?_)
    refine dk_aload_n (pc' := 60) hE dX11_readPart_59 rfl rfl rfl ?_
    refine gf_11_21 (pc' := 63) (w := 154) hE fl_X11_51 dX11_readPart_60 is_141 rfl rfl ?_
    refine dk_iload_n (pc' := 64) hE dX11_readPart_63 rfl rfl rfl ?_
    refine dk_iconst (pc' := 65) hE dX11_readPart_64 (by decide) rfl ?_
    refine pa_82 (pc' := 66) hE dX11_readPart_65 is_154 (by omega) (by omega) rfl (fun σ226 eσ226 => ?_)
    refine dk_aload_n (pc' := 67) hE dX11_readPart_66 rfl rfl rfl ?_
    refine gf_11_24 (pc' := 70) (w := 157) hE fl_X11_60 dX11_readPart_67 is_141 rfl rfl ?_
    refine dk_iload_n (pc' := 71) hE dX11_readPart_70 rfl rfl rfl ?_
    refine dk_iload_n (pc' := 72) hE dX11_readPart_71 rfl rfl rfl ?_
    refine pa_85 (pc' := 73) hE dX11_readPart_72 is_157 (by omega) (by omega) trivial rfl (fun σ227 eσ227 => ?_)
    refine dk_aload_n (pc' := 74) hE dX11_readPart_73 rfl rfl rfl ?_
    refine gf_11_18 (pc' := 77) (w := 151) hE fl_X11_42 dX11_readPart_74 is_141 rfl rfl ?_
    refine dk_iload_n (pc' := 78) hE dX11_readPart_77 rfl rfl rfl ?_
    refine dk_aload_n (pc' := 79) hE dX11_readPart_78 rfl rfl rfl ?_
    refine gf_11_12 (pc' := 82) (w := 145) hE fl_X11_24 dX11_readPart_79 is_141 rfl rfl ?_
    refine dk_aload_n (pc' := 83) hE dX11_readPart_82 rfl rfl rfl ?_
    refine gf_11_28 (pc' := 86) hE fl_X11_269 dX11_readPart_83 is_141 rfl (fun v228 hv228 htv228 hbv228 => ?_)
    have hq228 : r = v228 := (show v228 = r by rw [hv228, eσ227, dk_up_n (show ¬ (141 = 157 ∧ 28 = v5) by omega), eσ226, dk_up_n (show ¬ (141 = 154 ∧ 28 = v5) by omega), eσ225, dk_up_n (show ¬ (141 = 153 ∧ 28 = v5) by omega), hfσ221 141 28 (by omega), eσ218, dk_up_n (show ¬ (141 = 152 ∧ 28 = v5) by omega), hfσ214 141 28 (by omega), hfσ210 141 28 (by omega), hfσ8 141 28 (by omega), hv3]).symm
    subst hq228
    clear htv228 hbv228
    refine ga_73 (pc' := 87) hE dX11_readPart_86 is_145 (by omega) rfl (fun v229 hv229 htv229 hbv229 => ?_)
    have hq229 : w = v229 := (show v229 = w by rw [hv229, eσ227, dk_up_n (show ¬ (145 = 157 ∧ r = v5) by omega), eσ226, dk_up_n (show ¬ (145 = 154 ∧ r = v5) by omega), eσ225, dk_up_n (show ¬ (145 = 153 ∧ r = v5) by omega), hfσ221 145 r (by omega), eσ218, dk_up_n (show ¬ (145 = 152 ∧ r = v5) by omega), hfσ214 145 r (by omega), hfσ210 145 r (by omega), hfσ8 145 r (by omega), hw]).symm
    subst hq229
    clear htv229 hbv229
    refine dk_iconst (pc' := 88) hE dX11_readPart_87 (by decide) rfl ?_
    obtain ⟨v230, hv230⟩ : ∃ z : Int, z = w - 1 := ⟨_, rfl⟩
    refine dk_isub (pc' := 89) hE dX11_readPart_88 hv230.symm (by omega) rfl ?_
    refine pa_79 (pc' := 90) hE dX11_readPart_89 is_151 (by omega) (by omega) rfl (fun σ231 eσ231 => ?_)
    have hz232 : σ227 146 r = σ 146 r := by rw [eσ227, dk_up_n (show ¬ (146 = 157 ∧ r = v5) by omega), eσ226, dk_up_n (show ¬ (146 = 154 ∧ r = v5) by omega), eσ225, dk_up_n (show ¬ (146 = 153 ∧ r = v5) by omega), hfσ221 146 r (by omega), eσ218, dk_up_n (show ¬ (146 = 152 ∧ r = v5) by omega), hfσ214 146 r (by omega), hfσ210 146 r (by omega), hfσ8 146 r (by omega)]
    have gi233 : RX r σ σ227 := RX_fr gi224 (fun k_ j_ h_ => by rw [eσ227, dk_up_n (show ¬ (k_ = 157 ∧ j_ = v5) by omega), eσ226, dk_up_n (show ¬ (k_ = 154 ∧ j_ = v5) by omega), eσ225, dk_up_n (show ¬ (k_ = 153 ∧ j_ = v5) by omega)])
    have gi234 : RX r σ σ231 := ⟨NX_fr (gi233).1 (fun k_ j_ h_ => by rw [eσ231, dk_up_n (by omega)]), TI_151 (gi233).2 (by omega) (by omega) eσ231⟩
    refine dk_aload_n (pc' := 91) hE dX11_readPart_90 rfl rfl rfl ?_
    refine dk_cV (pc' := 94) (as := []) hE lk_X11_250 (ct_X11_isGood l G hGd) dX11_readPart_91 rfl is_141 rfl (by decide) (Nat.le_of_ble_eq_true rfl) rfl rfl (fun r236 σ235 hr236 hor236 => ?_)
    obtain ⟨v237, rfl, hfσ235, hpr236⟩ := hr236
    have hsσ235 : σ231 = σ235 := (funext (fun k => funext (fun j => hfσ235 k j not_false))).symm
    subst hsσ235
    rcases hpr236 with ⟨rfl, hpr236⟩ | ⟨rfl, hpr236⟩
    · skip
      refine dk_if_eq (tgt := 109) (pc' := 97) hE dX11_readPart_94 (by decide) rfl (fun hc238 => absurd hc238 (by decide)) (fun hc238 => ?_)
      refine dk_aload_n (pc' := 98) hE dX11_readPart_97 rfl rfl rfl ?_
      refine gf_11_8 (pc' := 101) hE fl_X11_222 dX11_readPart_98 is_141 rfl (fun v239 hv239 htv239 hbv239 => ?_)
      refine dk_iconst (pc' := 102) hE dX11_readPart_101 (by decide) rfl ?_
      refine dk_icmp_eq (tgt := 109) (pc' := 105) hE dX11_readPart_102 (by decide) rfl (fun hc240 => ?_) (fun hc240 => ?_)
      · skip
        have lp109 : ∀ (N_ : Nat) (σ109c : dkS), (6 * (1402 - σ109c 141 6) - σ109c 141 4).toNat < N_ → ((∀ k_ j_ : Int, ¬ ((k_ = 141 ∧ j_ = 4) ∨ (k_ = 141 ∧ j_ = 5) ∨ (k_ = 141 ∧ j_ = 6) ∨ (k_ = 141 ∧ j_ = 7) ∨ (k_ = 141 ∧ j_ = 8) ∨ (k_ = 141 ∧ j_ = 9) ∨ (k_ = 141 ∧ j_ = 10) ∨ (154 ≤ k_ ∧ k_ ≤ 155)) → σ109c k_ j_ = σ231 k_ j_)) → (RX r σ σ109c) → dk_PJ E 109 [(4, 141), (0, b), (0, v5)] [] 190 σ109c := by
          intro N109
          induction N109 with
          | zero => intro  σ109c hm; exact absurd hm (Nat.not_lt_zero _)
          | succ N109 ih109 =>
            intro  σ109c hm109 hF109 hG109 
            have hTK := NX_tk (hG109).1
            have hTK1 := hTK.1
            have hTK2 := hTK.2.1
            have hTK3 := (hG109).1.1
            refine dk_aload_n (pc' := 110) hE dX11_readPart_109 rfl rfl rfl ?_
            refine dk_cV (pc' := 113) (as := []) hE lk_X11_250 (ct_X11_isGood l G hGd) dX11_readPart_110 rfl is_141 rfl (by decide) (Nat.le_of_ble_eq_true rfl) rfl rfl (fun r242 σ241 hr242 hor242 => ?_)
            obtain ⟨v243, rfl, hfσ241, hpr242⟩ := hr242
            have hsσ241 : σ109c = σ241 := (funext (fun k => funext (fun j => hfσ241 k j not_false))).symm
            subst hsσ241
            rcases hpr242 with ⟨rfl, hpr242⟩ | ⟨rfl, hpr242⟩
            · skip
              refine dk_if_eq (tgt := 133) (pc' := 116) hE dX11_readPart_113 (by decide) rfl (fun hc244 => absurd hc244 (by decide)) (fun hc244 => ?_)
              refine dk_aload_n (pc' := 117) hE dX11_readPart_116 rfl rfl rfl ?_
              refine gf_11_8 (pc' := 120) hE fl_X11_222 dX11_readPart_117 is_141 rfl (fun v245 hv245 htv245 hbv245 => ?_)
              refine dk_iconst (pc' := 121) hE dX11_readPart_120 (by decide) rfl ?_
              refine dk_icmp_ne (tgt := 133) (pc' := 124) hE dX11_readPart_121 (by decide) rfl (fun hc246 => ?_) (fun hc246 => ?_)
              · skip
                refine dk_aload_n (pc' := 134) hE dX11_readPart_133 rfl rfl rfl ?_
                refine gf_11_13 (pc' := 137) (w := 146) hE fl_X11_27 dX11_readPart_134 is_141 rfl rfl ?_
                refine dk_aload_n (pc' := 138) hE dX11_readPart_137 rfl rfl rfl ?_
                refine gf_11_28 (pc' := 141) hE fl_X11_269 dX11_readPart_138 is_141 rfl (fun v247 hv247 htv247 hbv247 => ?_)
                have hq247 : r = v247 := (show v247 = r by rw [hv247, hF109 141 28 (by omega), eσ231, dk_up_n (show ¬ (141 = 151 ∧ 28 = v5) by omega), hv228]).symm
                subst hq247
                clear htv247 hbv247
                refine dk_dup2 (pc' := 142) hE dX11_readPart_141 (show (0 : Nat) ≠ 3 by decide) (show (4 : Nat) ≠ 3 by decide) rfl ?_
                refine ga_74 (pc' := 143) hE dX11_readPart_142 is_146 (by omega) rfl (fun v248 hv248 htv248 hbv248 => ?_)
                have hq248 : q = v248 := (show v248 = q by rw [hv248, hF109 146 r (by omega), eσ231, dk_up_n (show ¬ (146 = 151 ∧ r = v5) by omega), eσ227, dk_up_n (show ¬ (146 = 157 ∧ r = v5) by omega), eσ226, dk_up_n (show ¬ (146 = 154 ∧ r = v5) by omega), eσ225, dk_up_n (show ¬ (146 = 153 ∧ r = v5) by omega), hfσ221 146 r (by omega), eσ218, dk_up_n (show ¬ (146 = 152 ∧ r = v5) by omega), hfσ214 146 r (by omega), hfσ210 146 r (by omega), hfσ8 146 r (by omega), hv4]).symm
                subst hq248
                clear htv248 hbv248
                refine dk_iconst (pc' := 144) hE dX11_readPart_143 (by decide) rfl ?_
                obtain ⟨v249, hv249⟩ : ∃ z : Int, z = q + 1 := ⟨_, rfl⟩
                refine dk_iadd (pc' := 145) hE dX11_readPart_144 hv249.symm (by omega) rfl ?_
                refine pa_74 (pc' := 146) hE dX11_readPart_145 is_146 (by omega) (by omega) rfl (fun σ250 eσ250 => ?_)
                refine dk_aload_n (pc' := 147) hE dX11_readPart_146 rfl rfl rfl ?_
                refine gf_11_23 (pc' := 150) (w := 156) hE fl_X11_57 dX11_readPart_147 is_141 rfl rfl ?_
                refine dk_iconst (pc' := 151) hE dX11_readPart_150 (by decide) rfl ?_
                refine dk_aload_n (pc' := 152) hE dX11_readPart_151 rfl rfl rfl ?_
                refine gf_11_28 (pc' := 155) hE fl_X11_269 dX11_readPart_152 is_141 rfl (fun v251 hv251 htv251 hbv251 => ?_)
                have hq251 : r = v251 := (show v251 = r by rw [hv251, eσ250, dk_up_n (show ¬ (141 = 146 ∧ 28 = r) by omega), hv247]).symm
                subst hq251
                clear htv251 hbv251
                obtain ⟨v252, hv252⟩ : ∃ z : Int, z = 4 * r := ⟨_, rfl⟩
                refine dk_imul (pc' := 156) hE dX11_readPart_155 hv252.symm (by omega) rfl ?_
                refine dk_aload_n (pc' := 157) hE dX11_readPart_156 rfl rfl rfl ?_
                refine gf_11_12 (pc' := 160) (w := 145) hE fl_X11_24 dX11_readPart_157 is_141 rfl rfl ?_
                refine dk_aload_n (pc' := 161) hE dX11_readPart_160 rfl rfl rfl ?_
                refine gf_11_28 (pc' := 164) hE fl_X11_269 dX11_readPart_161 is_141 rfl (fun v253 hv253 htv253 hbv253 => ?_)
                have hq253 : r = v253 := (show v253 = r by rw [hv253, hv251]).symm
                subst hq253
                clear htv253 hbv253
                refine ga_73 (pc' := 165) hE dX11_readPart_164 is_145 (by omega) rfl (fun v254 hv254 htv254 hbv254 => ?_)
                have hq254 : w = v254 := (show v254 = w by rw [hv254, eσ250, dk_up_n (show ¬ (145 = 146 ∧ r = r) by omega), hF109 145 r (by omega), eσ231, dk_up_n (show ¬ (145 = 151 ∧ r = v5) by omega), hv229]).symm
                subst hq254
                clear htv254 hbv254
                obtain ⟨v255, hv255⟩ : ∃ z : Int, z = v252 + w := ⟨_, rfl⟩
                refine dk_iadd (pc' := 166) hE dX11_readPart_165 hv255.symm (by omega) rfl ?_
                refine dk_iconst (pc' := 167) hE dX11_readPart_166 (by decide) rfl ?_
                obtain ⟨v256, hv256⟩ : ∃ z : Int, z = v255 - 1 := ⟨_, rfl⟩
                refine dk_isub (pc' := 168) hE dX11_readPart_167 hv256.symm (by omega) rfl ?_
                refine dk_dup2 (pc' := 169) hE dX11_readPart_168 (show (0 : Nat) ≠ 3 by decide) (show (4 : Nat) ≠ 3 by decide) rfl ?_
                refine ga_84 (pc' := 170) hE dX11_readPart_169 is_156 (by omega) rfl (fun v257 hv257 htv257 hbv257 => ?_)
                have h8i := h8 v256 (by omega)
                have h8j : v257 = σ 156 v256 := by rw [hv257, eσ250, dk_up_n (show ¬ (156 = 146 ∧ v256 = r) by omega), hF109 156 v256 (by omega), eσ231, dk_up_n (show ¬ (156 = 151 ∧ v256 = v5) by omega), eσ227, dk_up_n (show ¬ (156 = 157 ∧ v256 = v5) by omega), eσ226, dk_up_n (show ¬ (156 = 154 ∧ v256 = v5) by omega), eσ225, dk_up_n (show ¬ (156 = 153 ∧ v256 = v5) by omega), hfσ221 156 v256 (by omega), eσ218, dk_up_n (show ¬ (156 = 152 ∧ v256 = v5) by omega), hfσ214 156 v256 (by omega), hfσ210 156 v256 (by omega), hfσ8 156 v256 (by omega)]
                refine dk_iconst (pc' := 171) hE dX11_readPart_170 (by decide) rfl ?_
                obtain ⟨v258, hv258⟩ : ∃ z : Int, z = v257 + 1 := ⟨_, rfl⟩
                refine dk_iadd (pc' := 172) hE dX11_readPart_171 hv258.symm (by omega) rfl ?_
                refine pa_84 (pc' := 173) hE dX11_readPart_172 is_156 (by omega) trivial rfl (fun σ259 eσ259 => ?_)
                have hz260 : σ109c 146 r = σ 146 r := by rw [hF109 146 r (by omega), eσ231, dk_up_n (show ¬ (146 = 151 ∧ r = v5) by omega), eσ227, dk_up_n (show ¬ (146 = 157 ∧ r = v5) by omega), eσ226, dk_up_n (show ¬ (146 = 154 ∧ r = v5) by omega), eσ225, dk_up_n (show ¬ (146 = 153 ∧ r = v5) by omega), hfσ221 146 r (by omega), eσ218, dk_up_n (show ¬ (146 = 152 ∧ r = v5) by omega), hfσ214 146 r (by omega), hfσ210 146 r (by omega), hfσ8 146 r (by omega)]
                have hz261 : σ109c 151 v5 = v230 := by rw [hF109 151 v5 (by omega), eσ231, dk_up_s]
                have hz262 : σ109c 156 v256 = σ 156 v256 := by rw [hF109 156 v256 (by omega), eσ231, dk_up_n (show ¬ (156 = 151 ∧ v256 = v5) by omega), eσ227, dk_up_n (show ¬ (156 = 157 ∧ v256 = v5) by omega), eσ226, dk_up_n (show ¬ (156 = 154 ∧ v256 = v5) by omega), eσ225, dk_up_n (show ¬ (156 = 153 ∧ v256 = v5) by omega), hfσ221 156 v256 (by omega), eσ218, dk_up_n (show ¬ (156 = 152 ∧ v256 = v5) by omega), hfσ214 156 v256 (by omega), hfσ210 156 v256 (by omega), hfσ8 156 v256 (by omega)]
                have gi263 : RX r σ σ259 := ⟨NX_fr (hG109).1 (fun k_ j_ h_ => by rw [eσ259, dk_up_n (by omega), eσ250, dk_up_n (by omega)]), TI_part (q := q) (w := w - 1) (p := v5) (hG109).2 (by omega) (by omega) (by omega) (by omega) (by omega) (by omega) hv257 (by omega) (by omega) (by omega) eσ250 eσ259⟩
                have hz264 : σ259 147 r = n + 1 := by rw [eσ259, dk_up_n (show ¬ (147 = 156 ∧ r = v256) by omega), eσ250, dk_up_n (show ¬ (147 = 146 ∧ r = r) by omega), hF109 147 r (by omega), eσ231, dk_up_n (show ¬ (147 = 151 ∧ r = v5) by omega), eσ227, dk_up_n (show ¬ (147 = 157 ∧ r = v5) by omega), eσ226, dk_up_n (show ¬ (147 = 154 ∧ r = v5) by omega), eσ225, dk_up_n (show ¬ (147 = 153 ∧ r = v5) by omega), hfσ221 147 r (by omega), eσ218, dk_up_n (show ¬ (147 = 152 ∧ r = v5) by omega), hfσ214 147 r (by omega), hfσ210 147 r (by omega), (hpr9.2).symm]
                have hz265 : σ259 146 r = v249 := by rw [eσ259, dk_up_n (show ¬ (146 = 156 ∧ r = v256) by omega), eσ250, dk_up_s]
                exact dk_vret (st := []) hE hR dX11_readPart_173 ⟨rfl, (fun k_ j_ h_ => by rw [eσ259, dk_up_n (show ¬ (k_ = 156 ∧ j_ = v256) from fun q_ => h_ (Or.inr (Or.inr (Or.inr (Or.inr (Or.inr (Or.inr (Or.inr (Or.inr (Or.inl (dk_wr (lo := 151) (hi := 157) q_.1 (by decide)))))))))))), eσ250, dk_up_n (show ¬ (k_ = 146 ∧ j_ = r) from fun q_ => h_ (Or.inr (Or.inr (Or.inr (Or.inr (Or.inr (Or.inr (Or.inr (Or.inl (dk_wr (lo := 146) (hi := 147) q_.1 (by decide))))))))))), hF109 k_ j_ (fun w_ => h_ (w_.elim (fun x0_ => Or.inl (x0_)) (fun y0_ => y0_.elim (fun x1_ => Or.inr (Or.inl (x1_))) (fun y1_ => y1_.elim (fun x2_ => Or.inr (Or.inr (Or.inl (x2_)))) (fun y2_ => y2_.elim (fun x3_ => Or.inr (Or.inr (Or.inr (Or.inl (x3_))))) (fun y3_ => y3_.elim (fun x4_ => Or.inr (Or.inr (Or.inr (Or.inr (Or.inl (x4_)))))) (fun y4_ => y4_.elim (fun x5_ => Or.inr (Or.inr (Or.inr (Or.inr (Or.inr (Or.inl (x5_))))))) (fun y5_ => y5_.elim (fun x6_ => Or.inr (Or.inr (Or.inr (Or.inr (Or.inr (Or.inr (Or.inl (x6_)))))))) (fun y6_ => Or.inr (Or.inr (Or.inr (Or.inr (Or.inr (Or.inr (Or.inr (Or.inr (Or.inl (dk_wrr (lo := 151) (hi := 157) y6_ (by decide) (by decide))))))))))))))))))), eσ231, dk_up_n (show ¬ (k_ = 151 ∧ j_ = v5) from fun q_ => h_ (Or.inr (Or.inr (Or.inr (Or.inr (Or.inr (Or.inr (Or.inr (Or.inr (Or.inl (dk_wr (lo := 151) (hi := 157) q_.1 (by decide)))))))))))), eσ227, dk_up_n (show ¬ (k_ = 157 ∧ j_ = v5) from fun q_ => h_ (Or.inr (Or.inr (Or.inr (Or.inr (Or.inr (Or.inr (Or.inr (Or.inr (Or.inl (dk_wr (lo := 151) (hi := 157) q_.1 (by decide)))))))))))), eσ226, dk_up_n (show ¬ (k_ = 154 ∧ j_ = v5) from fun q_ => h_ (Or.inr (Or.inr (Or.inr (Or.inr (Or.inr (Or.inr (Or.inr (Or.inr (Or.inl (dk_wr (lo := 151) (hi := 157) q_.1 (by decide)))))))))))), eσ225, dk_up_n (show ¬ (k_ = 153 ∧ j_ = v5) from fun q_ => h_ (Or.inr (Or.inr (Or.inr (Or.inr (Or.inr (Or.inr (Or.inr (Or.inr (Or.inl (dk_wr (lo := 151) (hi := 157) q_.1 (by decide)))))))))))), hfσ221 k_ j_ (fun w_ => h_ (w_.elim (fun x0_ => Or.inl (x0_)) (fun y0_ => y0_.elim (fun x1_ => Or.inr (Or.inl (x1_))) (fun y1_ => y1_.elim (fun x2_ => Or.inr (Or.inr (Or.inl (x2_)))) (fun y2_ => y2_.elim (fun x3_ => Or.inr (Or.inr (Or.inr (Or.inl (x3_))))) (fun y3_ => y3_.elim (fun x4_ => Or.inr (Or.inr (Or.inr (Or.inr (Or.inl (x4_)))))) (fun y4_ => y4_.elim (fun x5_ => Or.inr (Or.inr (Or.inr (Or.inr (Or.inr (Or.inl (x5_))))))) (fun y5_ => Or.inr (Or.inr (Or.inr (Or.inr (Or.inr (Or.inr (Or.inl (y5_))))))))))))))), eσ218, dk_up_n (show ¬ (k_ = 152 ∧ j_ = v5) from fun q_ => h_ (Or.inr (Or.inr (Or.inr (Or.inr (Or.inr (Or.inr (Or.inr (Or.inr (Or.inl (dk_wr (lo := 151) (hi := 157) q_.1 (by decide)))))))))))), hfσ214 k_ j_ (fun w_ => h_ (w_.elim (fun x0_ => Or.inl (x0_)) (fun y0_ => y0_.elim (fun x1_ => Or.inr (Or.inl (x1_))) (fun y1_ => y1_.elim (fun x2_ => Or.inr (Or.inr (Or.inl (x2_)))) (fun y2_ => y2_.elim (fun x3_ => Or.inr (Or.inr (Or.inr (Or.inl (x3_))))) (fun y3_ => y3_.elim (fun x4_ => Or.inr (Or.inr (Or.inr (Or.inr (Or.inl (x4_)))))) (fun y4_ => y4_.elim (fun x5_ => Or.inr (Or.inr (Or.inr (Or.inr (Or.inr (Or.inl (x5_))))))) (fun y5_ => Or.inr (Or.inr (Or.inr (Or.inr (Or.inr (Or.inr (Or.inl (y5_))))))))))))))), hfσ210 k_ j_ (fun w_ => h_ (w_.elim (fun x0_ => Or.inl (x0_)) (fun y0_ => y0_.elim (fun x1_ => Or.inr (Or.inl (x1_))) (fun y1_ => y1_.elim (fun x2_ => Or.inr (Or.inr (Or.inl (x2_)))) (fun y2_ => y2_.elim (fun x3_ => Or.inr (Or.inr (Or.inr (Or.inl (x3_))))) (fun y3_ => y3_.elim (fun x4_ => Or.inr (Or.inr (Or.inr (Or.inr (Or.inl (x4_)))))) (fun y4_ => y4_.elim (fun x5_ => Or.inr (Or.inr (Or.inr (Or.inr (Or.inr (Or.inl (x5_))))))) (fun y5_ => Or.inr (Or.inr (Or.inr (Or.inr (Or.inr (Or.inr (Or.inl (y5_))))))))))))))), hfσ8 k_ j_ (fun w_ => h_ (w_.elim (fun x0_ => Or.inl (x0_)) (fun y0_ => y0_.elim (fun x1_ => Or.inr (Or.inl (x1_))) (fun y1_ => y1_.elim (fun x2_ => Or.inr (Or.inr (Or.inl (x2_)))) (fun y2_ => y2_.elim (fun x3_ => Or.inr (Or.inr (Or.inr (Or.inl (x3_))))) (fun y3_ => y3_.elim (fun x4_ => Or.inr (Or.inr (Or.inr (Or.inr (Or.inl (x4_)))))) (fun y4_ => y4_.elim (fun x5_ => Or.inr (Or.inr (Or.inr (Or.inr (Or.inr (Or.inl (x5_))))))) (fun y5_ => y5_.elim (fun x6_ => Or.inr (Or.inr (Or.inr (Or.inr (Or.inr (Or.inr (Or.inl (x6_)))))))) (fun y6_ => y6_.elim (fun x7_ => Or.inr (Or.inr (Or.inr (Or.inr (Or.inr (Or.inr (Or.inr (Or.inl (dk_wr (lo := 146) (hi := 147) x7_ (by decide)))))))))) (fun y7_ => Or.inr (Or.inr (Or.inr (Or.inr (Or.inr (Or.inr (Or.inr (Or.inr (Or.inr (y7_)))))))))))))))))))]), ⟨gi263, by omega, by omega⟩⟩
              · skip
                refine dk_aload_n (pc' := 125) hE dX11_readPart_124 rfl rfl rfl ?_
                refine dk_iload_n (pc' := 126) hE dX11_readPart_125 rfl rfl rfl ?_
                refine dk_iload_n (pc' := 127) hE dX11_readPart_126 rfl rfl rfl ?_
                have hz266 : σ109c 141 3 = σ 141 3 := by rw [hF109 141 3 (by omega), eσ231, dk_up_n (show ¬ (141 = 151 ∧ 3 = v5) by omega), eσ227, dk_up_n (show ¬ (141 = 157 ∧ 3 = v5) by omega), eσ226, dk_up_n (show ¬ (141 = 154 ∧ 3 = v5) by omega), eσ225, dk_up_n (show ¬ (141 = 153 ∧ 3 = v5) by omega), hfσ221 141 3 (by omega), eσ218, dk_up_n (show ¬ (141 = 152 ∧ 3 = v5) by omega), hfσ214 141 3 (by omega), hfσ210 141 3 (by omega), hfσ8 141 3 (by omega)]
                refine dk_cV (pc' := 130) (as := [(0, v5), (0, b)]) hE lk_X11_311 (ct_X11_readSteps l G hGd v5 b) dX11_readPart_127 rfl is_141 rfl (by decide) (Nat.le_of_ble_eq_true rfl) ⟨rfl, (NX_tk (hG109).1), (by omega), (by omega)⟩ rfl (fun r268 σ267 hr268 hor268 => ?_)
                obtain ⟨rfl, hfσ267, hpr268⟩ := hr268
                have H127 := hpr268
                have gi269 : RX r σ σ267 := RX_tr hG109 hpr268.1 (fun k_ j_ h_ => hfσ267 k_ j_ (by omega))
                have hy_ := H127.2
                have hx_ := H127.1.2.2.1
                have hw_ := H127.1.2.2.2.2
                refine dk_goto (tgt := 109) hE dX11_readPart_130 (by decide) ?_
                exact ih109 σ267 (by omega) (fun k_ j_ h_ => by rw [hfσ267 k_ j_ (fun w_ => h_ (w_.elim (fun x0_ => Or.inl (x0_)) (fun y0_ => y0_.elim (fun x1_ => Or.inr (Or.inl (x1_))) (fun y1_ => y1_.elim (fun x2_ => Or.inr (Or.inr (Or.inl (x2_)))) (fun y2_ => y2_.elim (fun x3_ => Or.inr (Or.inr (Or.inr (Or.inl (x3_))))) (fun y3_ => y3_.elim (fun x4_ => Or.inr (Or.inr (Or.inr (Or.inr (Or.inl (x4_)))))) (fun y4_ => y4_.elim (fun x5_ => Or.inr (Or.inr (Or.inr (Or.inr (Or.inr (Or.inl (x5_))))))) (fun y5_ => y5_.elim (fun x6_ => Or.inr (Or.inr (Or.inr (Or.inr (Or.inr (Or.inr (Or.inl (x6_)))))))) (fun y6_ => Or.inr (Or.inr (Or.inr (Or.inr (Or.inr (Or.inr (Or.inr (y6_)))))))))))))))), hF109 k_ j_ (fun w_ => h_ (w_.elim (fun x0_ => Or.inl (x0_)) (fun y0_ => y0_.elim (fun x1_ => Or.inr (Or.inl (x1_))) (fun y1_ => y1_.elim (fun x2_ => Or.inr (Or.inr (Or.inl (x2_)))) (fun y2_ => y2_.elim (fun x3_ => Or.inr (Or.inr (Or.inr (Or.inl (x3_))))) (fun y3_ => y3_.elim (fun x4_ => Or.inr (Or.inr (Or.inr (Or.inr (Or.inl (x4_)))))) (fun y4_ => y4_.elim (fun x5_ => Or.inr (Or.inr (Or.inr (Or.inr (Or.inr (Or.inl (x5_))))))) (fun y5_ => y5_.elim (fun x6_ => Or.inr (Or.inr (Or.inr (Or.inr (Or.inr (Or.inr (Or.inl (x6_)))))))) (fun y6_ => Or.inr (Or.inr (Or.inr (Or.inr (Or.inr (Or.inr (Or.inr (y6_))))))))))))))))]) gi269
            · skip
              refine dk_if_eq (tgt := 133) (pc' := 116) hE dX11_readPart_113 (by decide) rfl (fun hc272 => ?_) (fun hc272 => absurd hc272 (by decide))
              refine dk_aload_n (pc' := 134) hE dX11_readPart_133 rfl rfl rfl ?_
              refine gf_11_13 (pc' := 137) (w := 146) hE fl_X11_27 dX11_readPart_134 is_141 rfl rfl ?_
              refine dk_aload_n (pc' := 138) hE dX11_readPart_137 rfl rfl rfl ?_
              refine gf_11_28 (pc' := 141) hE fl_X11_269 dX11_readPart_138 is_141 rfl (fun v273 hv273 htv273 hbv273 => ?_)
              have hq273 : r = v273 := (show v273 = r by rw [hv273, hF109 141 28 (by omega), eσ231, dk_up_n (show ¬ (141 = 151 ∧ 28 = v5) by omega), hv228]).symm
              subst hq273
              clear htv273 hbv273
              refine dk_dup2 (pc' := 142) hE dX11_readPart_141 (show (0 : Nat) ≠ 3 by decide) (show (4 : Nat) ≠ 3 by decide) rfl ?_
              refine ga_74 (pc' := 143) hE dX11_readPart_142 is_146 (by omega) rfl (fun v274 hv274 htv274 hbv274 => ?_)
              have hq274 : q = v274 := (show v274 = q by rw [hv274, hF109 146 r (by omega), eσ231, dk_up_n (show ¬ (146 = 151 ∧ r = v5) by omega), eσ227, dk_up_n (show ¬ (146 = 157 ∧ r = v5) by omega), eσ226, dk_up_n (show ¬ (146 = 154 ∧ r = v5) by omega), eσ225, dk_up_n (show ¬ (146 = 153 ∧ r = v5) by omega), hfσ221 146 r (by omega), eσ218, dk_up_n (show ¬ (146 = 152 ∧ r = v5) by omega), hfσ214 146 r (by omega), hfσ210 146 r (by omega), hfσ8 146 r (by omega), hv4]).symm
              subst hq274
              clear htv274 hbv274
              refine dk_iconst (pc' := 144) hE dX11_readPart_143 (by decide) rfl ?_
              obtain ⟨v275, hv275⟩ : ∃ z : Int, z = q + 1 := ⟨_, rfl⟩
              refine dk_iadd (pc' := 145) hE dX11_readPart_144 hv275.symm (by omega) rfl ?_
              refine pa_74 (pc' := 146) hE dX11_readPart_145 is_146 (by omega) (by omega) rfl (fun σ276 eσ276 => ?_)
              refine dk_aload_n (pc' := 147) hE dX11_readPart_146 rfl rfl rfl ?_
              refine gf_11_23 (pc' := 150) (w := 156) hE fl_X11_57 dX11_readPart_147 is_141 rfl rfl ?_
              refine dk_iconst (pc' := 151) hE dX11_readPart_150 (by decide) rfl ?_
              refine dk_aload_n (pc' := 152) hE dX11_readPart_151 rfl rfl rfl ?_
              refine gf_11_28 (pc' := 155) hE fl_X11_269 dX11_readPart_152 is_141 rfl (fun v277 hv277 htv277 hbv277 => ?_)
              have hq277 : r = v277 := (show v277 = r by rw [hv277, eσ276, dk_up_n (show ¬ (141 = 146 ∧ 28 = r) by omega), hv273]).symm
              subst hq277
              clear htv277 hbv277
              obtain ⟨v278, hv278⟩ : ∃ z : Int, z = 4 * r := ⟨_, rfl⟩
              refine dk_imul (pc' := 156) hE dX11_readPart_155 hv278.symm (by omega) rfl ?_
              refine dk_aload_n (pc' := 157) hE dX11_readPart_156 rfl rfl rfl ?_
              refine gf_11_12 (pc' := 160) (w := 145) hE fl_X11_24 dX11_readPart_157 is_141 rfl rfl ?_
              refine dk_aload_n (pc' := 161) hE dX11_readPart_160 rfl rfl rfl ?_
              refine gf_11_28 (pc' := 164) hE fl_X11_269 dX11_readPart_161 is_141 rfl (fun v279 hv279 htv279 hbv279 => ?_)
              have hq279 : r = v279 := (show v279 = r by rw [hv279, hv277]).symm
              subst hq279
              clear htv279 hbv279
              refine ga_73 (pc' := 165) hE dX11_readPart_164 is_145 (by omega) rfl (fun v280 hv280 htv280 hbv280 => ?_)
              have hq280 : w = v280 := (show v280 = w by rw [hv280, eσ276, dk_up_n (show ¬ (145 = 146 ∧ r = r) by omega), hF109 145 r (by omega), eσ231, dk_up_n (show ¬ (145 = 151 ∧ r = v5) by omega), hv229]).symm
              subst hq280
              clear htv280 hbv280
              obtain ⟨v281, hv281⟩ : ∃ z : Int, z = v278 + w := ⟨_, rfl⟩
              refine dk_iadd (pc' := 166) hE dX11_readPart_165 hv281.symm (by omega) rfl ?_
              refine dk_iconst (pc' := 167) hE dX11_readPart_166 (by decide) rfl ?_
              obtain ⟨v282, hv282⟩ : ∃ z : Int, z = v281 - 1 := ⟨_, rfl⟩
              refine dk_isub (pc' := 168) hE dX11_readPart_167 hv282.symm (by omega) rfl ?_
              refine dk_dup2 (pc' := 169) hE dX11_readPart_168 (show (0 : Nat) ≠ 3 by decide) (show (4 : Nat) ≠ 3 by decide) rfl ?_
              refine ga_84 (pc' := 170) hE dX11_readPart_169 is_156 (by omega) rfl (fun v283 hv283 htv283 hbv283 => ?_)
              have h8i := h8 v282 (by omega)
              have h8j : v283 = σ 156 v282 := by rw [hv283, eσ276, dk_up_n (show ¬ (156 = 146 ∧ v282 = r) by omega), hF109 156 v282 (by omega), eσ231, dk_up_n (show ¬ (156 = 151 ∧ v282 = v5) by omega), eσ227, dk_up_n (show ¬ (156 = 157 ∧ v282 = v5) by omega), eσ226, dk_up_n (show ¬ (156 = 154 ∧ v282 = v5) by omega), eσ225, dk_up_n (show ¬ (156 = 153 ∧ v282 = v5) by omega), hfσ221 156 v282 (by omega), eσ218, dk_up_n (show ¬ (156 = 152 ∧ v282 = v5) by omega), hfσ214 156 v282 (by omega), hfσ210 156 v282 (by omega), hfσ8 156 v282 (by omega)]
              refine dk_iconst (pc' := 171) hE dX11_readPart_170 (by decide) rfl ?_
              obtain ⟨v284, hv284⟩ : ∃ z : Int, z = v283 + 1 := ⟨_, rfl⟩
              refine dk_iadd (pc' := 172) hE dX11_readPart_171 hv284.symm (by omega) rfl ?_
              refine pa_84 (pc' := 173) hE dX11_readPart_172 is_156 (by omega) trivial rfl (fun σ285 eσ285 => ?_)
              have hz286 : σ109c 146 r = σ 146 r := by rw [hF109 146 r (by omega), eσ231, dk_up_n (show ¬ (146 = 151 ∧ r = v5) by omega), eσ227, dk_up_n (show ¬ (146 = 157 ∧ r = v5) by omega), eσ226, dk_up_n (show ¬ (146 = 154 ∧ r = v5) by omega), eσ225, dk_up_n (show ¬ (146 = 153 ∧ r = v5) by omega), hfσ221 146 r (by omega), eσ218, dk_up_n (show ¬ (146 = 152 ∧ r = v5) by omega), hfσ214 146 r (by omega), hfσ210 146 r (by omega), hfσ8 146 r (by omega)]
              have hz287 : σ109c 151 v5 = v230 := by rw [hF109 151 v5 (by omega), eσ231, dk_up_s]
              have hz288 : σ109c 156 v282 = σ 156 v282 := by rw [hF109 156 v282 (by omega), eσ231, dk_up_n (show ¬ (156 = 151 ∧ v282 = v5) by omega), eσ227, dk_up_n (show ¬ (156 = 157 ∧ v282 = v5) by omega), eσ226, dk_up_n (show ¬ (156 = 154 ∧ v282 = v5) by omega), eσ225, dk_up_n (show ¬ (156 = 153 ∧ v282 = v5) by omega), hfσ221 156 v282 (by omega), eσ218, dk_up_n (show ¬ (156 = 152 ∧ v282 = v5) by omega), hfσ214 156 v282 (by omega), hfσ210 156 v282 (by omega), hfσ8 156 v282 (by omega)]
              have gi289 : RX r σ σ285 := ⟨NX_fr (hG109).1 (fun k_ j_ h_ => by rw [eσ285, dk_up_n (by omega), eσ276, dk_up_n (by omega)]), TI_part (q := q) (w := w - 1) (p := v5) (hG109).2 (by omega) (by omega) (by omega) (by omega) (by omega) (by omega) hv283 (by omega) (by omega) (by omega) eσ276 eσ285⟩
              have hz290 : σ285 147 r = n + 1 := by rw [eσ285, dk_up_n (show ¬ (147 = 156 ∧ r = v282) by omega), eσ276, dk_up_n (show ¬ (147 = 146 ∧ r = r) by omega), hF109 147 r (by omega), eσ231, dk_up_n (show ¬ (147 = 151 ∧ r = v5) by omega), eσ227, dk_up_n (show ¬ (147 = 157 ∧ r = v5) by omega), eσ226, dk_up_n (show ¬ (147 = 154 ∧ r = v5) by omega), eσ225, dk_up_n (show ¬ (147 = 153 ∧ r = v5) by omega), hfσ221 147 r (by omega), eσ218, dk_up_n (show ¬ (147 = 152 ∧ r = v5) by omega), hfσ214 147 r (by omega), hfσ210 147 r (by omega), (hpr9.2).symm]
              have hz291 : σ285 146 r = v275 := by rw [eσ285, dk_up_n (show ¬ (146 = 156 ∧ r = v282) by omega), eσ276, dk_up_s]
              exact dk_vret (st := []) hE hR dX11_readPart_173 ⟨rfl, (fun k_ j_ h_ => by rw [eσ285, dk_up_n (show ¬ (k_ = 156 ∧ j_ = v282) from fun q_ => h_ (Or.inr (Or.inr (Or.inr (Or.inr (Or.inr (Or.inr (Or.inr (Or.inr (Or.inl (dk_wr (lo := 151) (hi := 157) q_.1 (by decide)))))))))))), eσ276, dk_up_n (show ¬ (k_ = 146 ∧ j_ = r) from fun q_ => h_ (Or.inr (Or.inr (Or.inr (Or.inr (Or.inr (Or.inr (Or.inr (Or.inl (dk_wr (lo := 146) (hi := 147) q_.1 (by decide))))))))))), hF109 k_ j_ (fun w_ => h_ (w_.elim (fun x0_ => Or.inl (x0_)) (fun y0_ => y0_.elim (fun x1_ => Or.inr (Or.inl (x1_))) (fun y1_ => y1_.elim (fun x2_ => Or.inr (Or.inr (Or.inl (x2_)))) (fun y2_ => y2_.elim (fun x3_ => Or.inr (Or.inr (Or.inr (Or.inl (x3_))))) (fun y3_ => y3_.elim (fun x4_ => Or.inr (Or.inr (Or.inr (Or.inr (Or.inl (x4_)))))) (fun y4_ => y4_.elim (fun x5_ => Or.inr (Or.inr (Or.inr (Or.inr (Or.inr (Or.inl (x5_))))))) (fun y5_ => y5_.elim (fun x6_ => Or.inr (Or.inr (Or.inr (Or.inr (Or.inr (Or.inr (Or.inl (x6_)))))))) (fun y6_ => Or.inr (Or.inr (Or.inr (Or.inr (Or.inr (Or.inr (Or.inr (Or.inr (Or.inl (dk_wrr (lo := 151) (hi := 157) y6_ (by decide) (by decide))))))))))))))))))), eσ231, dk_up_n (show ¬ (k_ = 151 ∧ j_ = v5) from fun q_ => h_ (Or.inr (Or.inr (Or.inr (Or.inr (Or.inr (Or.inr (Or.inr (Or.inr (Or.inl (dk_wr (lo := 151) (hi := 157) q_.1 (by decide)))))))))))), eσ227, dk_up_n (show ¬ (k_ = 157 ∧ j_ = v5) from fun q_ => h_ (Or.inr (Or.inr (Or.inr (Or.inr (Or.inr (Or.inr (Or.inr (Or.inr (Or.inl (dk_wr (lo := 151) (hi := 157) q_.1 (by decide)))))))))))), eσ226, dk_up_n (show ¬ (k_ = 154 ∧ j_ = v5) from fun q_ => h_ (Or.inr (Or.inr (Or.inr (Or.inr (Or.inr (Or.inr (Or.inr (Or.inr (Or.inl (dk_wr (lo := 151) (hi := 157) q_.1 (by decide)))))))))))), eσ225, dk_up_n (show ¬ (k_ = 153 ∧ j_ = v5) from fun q_ => h_ (Or.inr (Or.inr (Or.inr (Or.inr (Or.inr (Or.inr (Or.inr (Or.inr (Or.inl (dk_wr (lo := 151) (hi := 157) q_.1 (by decide)))))))))))), hfσ221 k_ j_ (fun w_ => h_ (w_.elim (fun x0_ => Or.inl (x0_)) (fun y0_ => y0_.elim (fun x1_ => Or.inr (Or.inl (x1_))) (fun y1_ => y1_.elim (fun x2_ => Or.inr (Or.inr (Or.inl (x2_)))) (fun y2_ => y2_.elim (fun x3_ => Or.inr (Or.inr (Or.inr (Or.inl (x3_))))) (fun y3_ => y3_.elim (fun x4_ => Or.inr (Or.inr (Or.inr (Or.inr (Or.inl (x4_)))))) (fun y4_ => y4_.elim (fun x5_ => Or.inr (Or.inr (Or.inr (Or.inr (Or.inr (Or.inl (x5_))))))) (fun y5_ => Or.inr (Or.inr (Or.inr (Or.inr (Or.inr (Or.inr (Or.inl (y5_))))))))))))))), eσ218, dk_up_n (show ¬ (k_ = 152 ∧ j_ = v5) from fun q_ => h_ (Or.inr (Or.inr (Or.inr (Or.inr (Or.inr (Or.inr (Or.inr (Or.inr (Or.inl (dk_wr (lo := 151) (hi := 157) q_.1 (by decide)))))))))))), hfσ214 k_ j_ (fun w_ => h_ (w_.elim (fun x0_ => Or.inl (x0_)) (fun y0_ => y0_.elim (fun x1_ => Or.inr (Or.inl (x1_))) (fun y1_ => y1_.elim (fun x2_ => Or.inr (Or.inr (Or.inl (x2_)))) (fun y2_ => y2_.elim (fun x3_ => Or.inr (Or.inr (Or.inr (Or.inl (x3_))))) (fun y3_ => y3_.elim (fun x4_ => Or.inr (Or.inr (Or.inr (Or.inr (Or.inl (x4_)))))) (fun y4_ => y4_.elim (fun x5_ => Or.inr (Or.inr (Or.inr (Or.inr (Or.inr (Or.inl (x5_))))))) (fun y5_ => Or.inr (Or.inr (Or.inr (Or.inr (Or.inr (Or.inr (Or.inl (y5_))))))))))))))), hfσ210 k_ j_ (fun w_ => h_ (w_.elim (fun x0_ => Or.inl (x0_)) (fun y0_ => y0_.elim (fun x1_ => Or.inr (Or.inl (x1_))) (fun y1_ => y1_.elim (fun x2_ => Or.inr (Or.inr (Or.inl (x2_)))) (fun y2_ => y2_.elim (fun x3_ => Or.inr (Or.inr (Or.inr (Or.inl (x3_))))) (fun y3_ => y3_.elim (fun x4_ => Or.inr (Or.inr (Or.inr (Or.inr (Or.inl (x4_)))))) (fun y4_ => y4_.elim (fun x5_ => Or.inr (Or.inr (Or.inr (Or.inr (Or.inr (Or.inl (x5_))))))) (fun y5_ => Or.inr (Or.inr (Or.inr (Or.inr (Or.inr (Or.inr (Or.inl (y5_))))))))))))))), hfσ8 k_ j_ (fun w_ => h_ (w_.elim (fun x0_ => Or.inl (x0_)) (fun y0_ => y0_.elim (fun x1_ => Or.inr (Or.inl (x1_))) (fun y1_ => y1_.elim (fun x2_ => Or.inr (Or.inr (Or.inl (x2_)))) (fun y2_ => y2_.elim (fun x3_ => Or.inr (Or.inr (Or.inr (Or.inl (x3_))))) (fun y3_ => y3_.elim (fun x4_ => Or.inr (Or.inr (Or.inr (Or.inr (Or.inl (x4_)))))) (fun y4_ => y4_.elim (fun x5_ => Or.inr (Or.inr (Or.inr (Or.inr (Or.inr (Or.inl (x5_))))))) (fun y5_ => y5_.elim (fun x6_ => Or.inr (Or.inr (Or.inr (Or.inr (Or.inr (Or.inr (Or.inl (x6_)))))))) (fun y6_ => y6_.elim (fun x7_ => Or.inr (Or.inr (Or.inr (Or.inr (Or.inr (Or.inr (Or.inr (Or.inl (dk_wr (lo := 146) (hi := 147) x7_ (by decide)))))))))) (fun y7_ => Or.inr (Or.inr (Or.inr (Or.inr (Or.inr (Or.inr (Or.inr (Or.inr (Or.inr (y7_)))))))))))))))))))]), ⟨gi289, by omega, by omega⟩⟩
        exact lp109 _ σ231 (Nat.lt_succ_self _) (fun k_ j_ h_ => rfl) gi234
      · skip
        refine dk_aload_n (pc' := 106) hE dX11_readPart_105 rfl rfl rfl ?_
        refine dk_cV (pc' := 109) (as := []) hE lk_X11_257 (ct_X11_wrong l G hGd) dX11_readPart_106 rfl is_141 rfl (by decide) (Nat.le_of_ble_eq_true rfl) rfl rfl (fun r295 σ294 hr295 hor295 => ?_)
        obtain ⟨rfl, hfσ294, hpr295⟩ := hr295
        have gi296 : RX r σ σ294 := RX_f gi234 hfσ294 hpr295
        have lp109 : ∀ (N_ : Nat) (σ109c : dkS), (6 * (1402 - σ109c 141 6) - σ109c 141 4).toNat < N_ → ((∀ k_ j_ : Int, ¬ ((k_ = 141 ∧ j_ = 4) ∨ (k_ = 141 ∧ j_ = 5) ∨ (k_ = 141 ∧ j_ = 6) ∨ (k_ = 141 ∧ j_ = 7) ∨ (k_ = 141 ∧ j_ = 8) ∨ (k_ = 141 ∧ j_ = 9) ∨ (k_ = 141 ∧ j_ = 10) ∨ (154 ≤ k_ ∧ k_ ≤ 155)) → σ109c k_ j_ = σ294 k_ j_)) → (RX r σ σ109c) → dk_PJ E 109 [(4, 141), (0, b), (0, v5)] [] 190 σ109c := by
          intro N109
          induction N109 with
          | zero => intro  σ109c hm; exact absurd hm (Nat.not_lt_zero _)
          | succ N109 ih109 =>
            intro  σ109c hm109 hF109 hG109 
            have hTK := NX_tk (hG109).1
            have hTK1 := hTK.1
            have hTK2 := hTK.2.1
            have hTK3 := (hG109).1.1
            refine dk_aload_n (pc' := 110) hE dX11_readPart_109 rfl rfl rfl ?_
            refine dk_cV (pc' := 113) (as := []) hE lk_X11_250 (ct_X11_isGood l G hGd) dX11_readPart_110 rfl is_141 rfl (by decide) (Nat.le_of_ble_eq_true rfl) rfl rfl (fun r298 σ297 hr298 hor298 => ?_)
            obtain ⟨v299, rfl, hfσ297, hpr298⟩ := hr298
            have hsσ297 : σ109c = σ297 := (funext (fun k => funext (fun j => hfσ297 k j not_false))).symm
            subst hsσ297
            rcases hpr298 with ⟨rfl, hpr298⟩ | ⟨rfl, hpr298⟩
            · skip
              refine dk_if_eq (tgt := 133) (pc' := 116) hE dX11_readPart_113 (by decide) rfl (fun hc300 => absurd hc300 (by decide)) (fun hc300 => ?_)
              refine dk_aload_n (pc' := 117) hE dX11_readPart_116 rfl rfl rfl ?_
              refine gf_11_8 (pc' := 120) hE fl_X11_222 dX11_readPart_117 is_141 rfl (fun v301 hv301 htv301 hbv301 => ?_)
              refine dk_iconst (pc' := 121) hE dX11_readPart_120 (by decide) rfl ?_
              refine dk_icmp_ne (tgt := 133) (pc' := 124) hE dX11_readPart_121 (by decide) rfl (fun hc302 => ?_) (fun hc302 => ?_)
              · skip
                refine dk_aload_n (pc' := 134) hE dX11_readPart_133 rfl rfl rfl ?_
                refine gf_11_13 (pc' := 137) (w := 146) hE fl_X11_27 dX11_readPart_134 is_141 rfl rfl ?_
                refine dk_aload_n (pc' := 138) hE dX11_readPart_137 rfl rfl rfl ?_
                refine gf_11_28 (pc' := 141) hE fl_X11_269 dX11_readPart_138 is_141 rfl (fun v303 hv303 htv303 hbv303 => ?_)
                have hq303 : r = v303 := (show v303 = r by rw [hv303, hF109 141 28 (by omega), hfσ294 141 28 (by omega), eσ231, dk_up_n (show ¬ (141 = 151 ∧ 28 = v5) by omega), hv228]).symm
                subst hq303
                clear htv303 hbv303
                refine dk_dup2 (pc' := 142) hE dX11_readPart_141 (show (0 : Nat) ≠ 3 by decide) (show (4 : Nat) ≠ 3 by decide) rfl ?_
                refine ga_74 (pc' := 143) hE dX11_readPart_142 is_146 (by omega) rfl (fun v304 hv304 htv304 hbv304 => ?_)
                have hq304 : q = v304 := (show v304 = q by rw [hv304, hF109 146 r (by omega), hfσ294 146 r (by omega), eσ231, dk_up_n (show ¬ (146 = 151 ∧ r = v5) by omega), eσ227, dk_up_n (show ¬ (146 = 157 ∧ r = v5) by omega), eσ226, dk_up_n (show ¬ (146 = 154 ∧ r = v5) by omega), eσ225, dk_up_n (show ¬ (146 = 153 ∧ r = v5) by omega), hfσ221 146 r (by omega), eσ218, dk_up_n (show ¬ (146 = 152 ∧ r = v5) by omega), hfσ214 146 r (by omega), hfσ210 146 r (by omega), hfσ8 146 r (by omega), hv4]).symm
                subst hq304
                clear htv304 hbv304
                refine dk_iconst (pc' := 144) hE dX11_readPart_143 (by decide) rfl ?_
                obtain ⟨v305, hv305⟩ : ∃ z : Int, z = q + 1 := ⟨_, rfl⟩
                refine dk_iadd (pc' := 145) hE dX11_readPart_144 hv305.symm (by omega) rfl ?_
                refine pa_74 (pc' := 146) hE dX11_readPart_145 is_146 (by omega) (by omega) rfl (fun σ306 eσ306 => ?_)
                refine dk_aload_n (pc' := 147) hE dX11_readPart_146 rfl rfl rfl ?_
                refine gf_11_23 (pc' := 150) (w := 156) hE fl_X11_57 dX11_readPart_147 is_141 rfl rfl ?_
                refine dk_iconst (pc' := 151) hE dX11_readPart_150 (by decide) rfl ?_
                refine dk_aload_n (pc' := 152) hE dX11_readPart_151 rfl rfl rfl ?_
                refine gf_11_28 (pc' := 155) hE fl_X11_269 dX11_readPart_152 is_141 rfl (fun v307 hv307 htv307 hbv307 => ?_)
                have hq307 : r = v307 := (show v307 = r by rw [hv307, eσ306, dk_up_n (show ¬ (141 = 146 ∧ 28 = r) by omega), hv303]).symm
                subst hq307
                clear htv307 hbv307
                obtain ⟨v308, hv308⟩ : ∃ z : Int, z = 4 * r := ⟨_, rfl⟩
                refine dk_imul (pc' := 156) hE dX11_readPart_155 hv308.symm (by omega) rfl ?_
                refine dk_aload_n (pc' := 157) hE dX11_readPart_156 rfl rfl rfl ?_
                refine gf_11_12 (pc' := 160) (w := 145) hE fl_X11_24 dX11_readPart_157 is_141 rfl rfl ?_
                refine dk_aload_n (pc' := 161) hE dX11_readPart_160 rfl rfl rfl ?_
                refine gf_11_28 (pc' := 164) hE fl_X11_269 dX11_readPart_161 is_141 rfl (fun v309 hv309 htv309 hbv309 => ?_)
                have hq309 : r = v309 := (show v309 = r by rw [hv309, hv307]).symm
                subst hq309
                clear htv309 hbv309
                refine ga_73 (pc' := 165) hE dX11_readPart_164 is_145 (by omega) rfl (fun v310 hv310 htv310 hbv310 => ?_)
                have hq310 : w = v310 := (show v310 = w by rw [hv310, eσ306, dk_up_n (show ¬ (145 = 146 ∧ r = r) by omega), hF109 145 r (by omega), hfσ294 145 r (by omega), eσ231, dk_up_n (show ¬ (145 = 151 ∧ r = v5) by omega), hv229]).symm
                subst hq310
                clear htv310 hbv310
                obtain ⟨v311, hv311⟩ : ∃ z : Int, z = v308 + w := ⟨_, rfl⟩
                refine dk_iadd (pc' := 166) hE dX11_readPart_165 hv311.symm (by omega) rfl ?_
                refine dk_iconst (pc' := 167) hE dX11_readPart_166 (by decide) rfl ?_
                obtain ⟨v312, hv312⟩ : ∃ z : Int, z = v311 - 1 := ⟨_, rfl⟩
                refine dk_isub (pc' := 168) hE dX11_readPart_167 hv312.symm (by omega) rfl ?_
                refine dk_dup2 (pc' := 169) hE dX11_readPart_168 (show (0 : Nat) ≠ 3 by decide) (show (4 : Nat) ≠ 3 by decide) rfl ?_
                refine ga_84 (pc' := 170) hE dX11_readPart_169 is_156 (by omega) rfl (fun v313 hv313 htv313 hbv313 => ?_)
                have h8i := h8 v312 (by omega)
                have h8j : v313 = σ 156 v312 := by rw [hv313, eσ306, dk_up_n (show ¬ (156 = 146 ∧ v312 = r) by omega), hF109 156 v312 (by omega), hfσ294 156 v312 (by omega), eσ231, dk_up_n (show ¬ (156 = 151 ∧ v312 = v5) by omega), eσ227, dk_up_n (show ¬ (156 = 157 ∧ v312 = v5) by omega), eσ226, dk_up_n (show ¬ (156 = 154 ∧ v312 = v5) by omega), eσ225, dk_up_n (show ¬ (156 = 153 ∧ v312 = v5) by omega), hfσ221 156 v312 (by omega), eσ218, dk_up_n (show ¬ (156 = 152 ∧ v312 = v5) by omega), hfσ214 156 v312 (by omega), hfσ210 156 v312 (by omega), hfσ8 156 v312 (by omega)]
                refine dk_iconst (pc' := 171) hE dX11_readPart_170 (by decide) rfl ?_
                obtain ⟨v314, hv314⟩ : ∃ z : Int, z = v313 + 1 := ⟨_, rfl⟩
                refine dk_iadd (pc' := 172) hE dX11_readPart_171 hv314.symm (by omega) rfl ?_
                refine pa_84 (pc' := 173) hE dX11_readPart_172 is_156 (by omega) trivial rfl (fun σ315 eσ315 => ?_)
                have hz316 : σ109c 146 r = σ 146 r := by rw [hF109 146 r (by omega), hfσ294 146 r (by omega), eσ231, dk_up_n (show ¬ (146 = 151 ∧ r = v5) by omega), eσ227, dk_up_n (show ¬ (146 = 157 ∧ r = v5) by omega), eσ226, dk_up_n (show ¬ (146 = 154 ∧ r = v5) by omega), eσ225, dk_up_n (show ¬ (146 = 153 ∧ r = v5) by omega), hfσ221 146 r (by omega), eσ218, dk_up_n (show ¬ (146 = 152 ∧ r = v5) by omega), hfσ214 146 r (by omega), hfσ210 146 r (by omega), hfσ8 146 r (by omega)]
                have hz317 : σ109c 151 v5 = v230 := by rw [hF109 151 v5 (by omega), hfσ294 151 v5 (by omega), eσ231, dk_up_s]
                have hz318 : σ109c 156 v312 = σ 156 v312 := by rw [hF109 156 v312 (by omega), hfσ294 156 v312 (by omega), eσ231, dk_up_n (show ¬ (156 = 151 ∧ v312 = v5) by omega), eσ227, dk_up_n (show ¬ (156 = 157 ∧ v312 = v5) by omega), eσ226, dk_up_n (show ¬ (156 = 154 ∧ v312 = v5) by omega), eσ225, dk_up_n (show ¬ (156 = 153 ∧ v312 = v5) by omega), hfσ221 156 v312 (by omega), eσ218, dk_up_n (show ¬ (156 = 152 ∧ v312 = v5) by omega), hfσ214 156 v312 (by omega), hfσ210 156 v312 (by omega), hfσ8 156 v312 (by omega)]
                have gi319 : RX r σ σ315 := ⟨NX_fr (hG109).1 (fun k_ j_ h_ => by rw [eσ315, dk_up_n (by omega), eσ306, dk_up_n (by omega)]), TI_part (q := q) (w := w - 1) (p := v5) (hG109).2 (by omega) (by omega) (by omega) (by omega) (by omega) (by omega) hv313 (by omega) (by omega) (by omega) eσ306 eσ315⟩
                have hz320 : σ315 147 r = n + 1 := by rw [eσ315, dk_up_n (show ¬ (147 = 156 ∧ r = v312) by omega), eσ306, dk_up_n (show ¬ (147 = 146 ∧ r = r) by omega), hF109 147 r (by omega), hfσ294 147 r (by omega), eσ231, dk_up_n (show ¬ (147 = 151 ∧ r = v5) by omega), eσ227, dk_up_n (show ¬ (147 = 157 ∧ r = v5) by omega), eσ226, dk_up_n (show ¬ (147 = 154 ∧ r = v5) by omega), eσ225, dk_up_n (show ¬ (147 = 153 ∧ r = v5) by omega), hfσ221 147 r (by omega), eσ218, dk_up_n (show ¬ (147 = 152 ∧ r = v5) by omega), hfσ214 147 r (by omega), hfσ210 147 r (by omega), (hpr9.2).symm]
                have hz321 : σ315 146 r = v305 := by rw [eσ315, dk_up_n (show ¬ (146 = 156 ∧ r = v312) by omega), eσ306, dk_up_s]
                exact dk_vret (st := []) hE hR dX11_readPart_173 ⟨rfl, (fun k_ j_ h_ => by rw [eσ315, dk_up_n (show ¬ (k_ = 156 ∧ j_ = v312) from fun q_ => h_ (Or.inr (Or.inr (Or.inr (Or.inr (Or.inr (Or.inr (Or.inr (Or.inr (Or.inl (dk_wr (lo := 151) (hi := 157) q_.1 (by decide)))))))))))), eσ306, dk_up_n (show ¬ (k_ = 146 ∧ j_ = r) from fun q_ => h_ (Or.inr (Or.inr (Or.inr (Or.inr (Or.inr (Or.inr (Or.inr (Or.inl (dk_wr (lo := 146) (hi := 147) q_.1 (by decide))))))))))), hF109 k_ j_ (fun w_ => h_ (w_.elim (fun x0_ => Or.inl (x0_)) (fun y0_ => y0_.elim (fun x1_ => Or.inr (Or.inl (x1_))) (fun y1_ => y1_.elim (fun x2_ => Or.inr (Or.inr (Or.inl (x2_)))) (fun y2_ => y2_.elim (fun x3_ => Or.inr (Or.inr (Or.inr (Or.inl (x3_))))) (fun y3_ => y3_.elim (fun x4_ => Or.inr (Or.inr (Or.inr (Or.inr (Or.inl (x4_)))))) (fun y4_ => y4_.elim (fun x5_ => Or.inr (Or.inr (Or.inr (Or.inr (Or.inr (Or.inl (x5_))))))) (fun y5_ => y5_.elim (fun x6_ => Or.inr (Or.inr (Or.inr (Or.inr (Or.inr (Or.inr (Or.inl (x6_)))))))) (fun y6_ => Or.inr (Or.inr (Or.inr (Or.inr (Or.inr (Or.inr (Or.inr (Or.inr (Or.inl (dk_wrr (lo := 151) (hi := 157) y6_ (by decide) (by decide))))))))))))))))))), hfσ294 k_ j_ (fun w_ => h_ (w_.elim (fun x0_ => Or.inl (x0_)) (fun y0_ => Or.inr (Or.inl (y0_))))), eσ231, dk_up_n (show ¬ (k_ = 151 ∧ j_ = v5) from fun q_ => h_ (Or.inr (Or.inr (Or.inr (Or.inr (Or.inr (Or.inr (Or.inr (Or.inr (Or.inl (dk_wr (lo := 151) (hi := 157) q_.1 (by decide)))))))))))), eσ227, dk_up_n (show ¬ (k_ = 157 ∧ j_ = v5) from fun q_ => h_ (Or.inr (Or.inr (Or.inr (Or.inr (Or.inr (Or.inr (Or.inr (Or.inr (Or.inl (dk_wr (lo := 151) (hi := 157) q_.1 (by decide)))))))))))), eσ226, dk_up_n (show ¬ (k_ = 154 ∧ j_ = v5) from fun q_ => h_ (Or.inr (Or.inr (Or.inr (Or.inr (Or.inr (Or.inr (Or.inr (Or.inr (Or.inl (dk_wr (lo := 151) (hi := 157) q_.1 (by decide)))))))))))), eσ225, dk_up_n (show ¬ (k_ = 153 ∧ j_ = v5) from fun q_ => h_ (Or.inr (Or.inr (Or.inr (Or.inr (Or.inr (Or.inr (Or.inr (Or.inr (Or.inl (dk_wr (lo := 151) (hi := 157) q_.1 (by decide)))))))))))), hfσ221 k_ j_ (fun w_ => h_ (w_.elim (fun x0_ => Or.inl (x0_)) (fun y0_ => y0_.elim (fun x1_ => Or.inr (Or.inl (x1_))) (fun y1_ => y1_.elim (fun x2_ => Or.inr (Or.inr (Or.inl (x2_)))) (fun y2_ => y2_.elim (fun x3_ => Or.inr (Or.inr (Or.inr (Or.inl (x3_))))) (fun y3_ => y3_.elim (fun x4_ => Or.inr (Or.inr (Or.inr (Or.inr (Or.inl (x4_)))))) (fun y4_ => y4_.elim (fun x5_ => Or.inr (Or.inr (Or.inr (Or.inr (Or.inr (Or.inl (x5_))))))) (fun y5_ => Or.inr (Or.inr (Or.inr (Or.inr (Or.inr (Or.inr (Or.inl (y5_))))))))))))))), eσ218, dk_up_n (show ¬ (k_ = 152 ∧ j_ = v5) from fun q_ => h_ (Or.inr (Or.inr (Or.inr (Or.inr (Or.inr (Or.inr (Or.inr (Or.inr (Or.inl (dk_wr (lo := 151) (hi := 157) q_.1 (by decide)))))))))))), hfσ214 k_ j_ (fun w_ => h_ (w_.elim (fun x0_ => Or.inl (x0_)) (fun y0_ => y0_.elim (fun x1_ => Or.inr (Or.inl (x1_))) (fun y1_ => y1_.elim (fun x2_ => Or.inr (Or.inr (Or.inl (x2_)))) (fun y2_ => y2_.elim (fun x3_ => Or.inr (Or.inr (Or.inr (Or.inl (x3_))))) (fun y3_ => y3_.elim (fun x4_ => Or.inr (Or.inr (Or.inr (Or.inr (Or.inl (x4_)))))) (fun y4_ => y4_.elim (fun x5_ => Or.inr (Or.inr (Or.inr (Or.inr (Or.inr (Or.inl (x5_))))))) (fun y5_ => Or.inr (Or.inr (Or.inr (Or.inr (Or.inr (Or.inr (Or.inl (y5_))))))))))))))), hfσ210 k_ j_ (fun w_ => h_ (w_.elim (fun x0_ => Or.inl (x0_)) (fun y0_ => y0_.elim (fun x1_ => Or.inr (Or.inl (x1_))) (fun y1_ => y1_.elim (fun x2_ => Or.inr (Or.inr (Or.inl (x2_)))) (fun y2_ => y2_.elim (fun x3_ => Or.inr (Or.inr (Or.inr (Or.inl (x3_))))) (fun y3_ => y3_.elim (fun x4_ => Or.inr (Or.inr (Or.inr (Or.inr (Or.inl (x4_)))))) (fun y4_ => y4_.elim (fun x5_ => Or.inr (Or.inr (Or.inr (Or.inr (Or.inr (Or.inl (x5_))))))) (fun y5_ => Or.inr (Or.inr (Or.inr (Or.inr (Or.inr (Or.inr (Or.inl (y5_))))))))))))))), hfσ8 k_ j_ (fun w_ => h_ (w_.elim (fun x0_ => Or.inl (x0_)) (fun y0_ => y0_.elim (fun x1_ => Or.inr (Or.inl (x1_))) (fun y1_ => y1_.elim (fun x2_ => Or.inr (Or.inr (Or.inl (x2_)))) (fun y2_ => y2_.elim (fun x3_ => Or.inr (Or.inr (Or.inr (Or.inl (x3_))))) (fun y3_ => y3_.elim (fun x4_ => Or.inr (Or.inr (Or.inr (Or.inr (Or.inl (x4_)))))) (fun y4_ => y4_.elim (fun x5_ => Or.inr (Or.inr (Or.inr (Or.inr (Or.inr (Or.inl (x5_))))))) (fun y5_ => y5_.elim (fun x6_ => Or.inr (Or.inr (Or.inr (Or.inr (Or.inr (Or.inr (Or.inl (x6_)))))))) (fun y6_ => y6_.elim (fun x7_ => Or.inr (Or.inr (Or.inr (Or.inr (Or.inr (Or.inr (Or.inr (Or.inl (dk_wr (lo := 146) (hi := 147) x7_ (by decide)))))))))) (fun y7_ => Or.inr (Or.inr (Or.inr (Or.inr (Or.inr (Or.inr (Or.inr (Or.inr (Or.inr (y7_)))))))))))))))))))]), ⟨gi319, by omega, by omega⟩⟩
              · skip
                refine dk_aload_n (pc' := 125) hE dX11_readPart_124 rfl rfl rfl ?_
                refine dk_iload_n (pc' := 126) hE dX11_readPart_125 rfl rfl rfl ?_
                refine dk_iload_n (pc' := 127) hE dX11_readPart_126 rfl rfl rfl ?_
                have hz322 : σ109c 141 3 = σ 141 3 := by rw [hF109 141 3 (by omega), hfσ294 141 3 (by omega), eσ231, dk_up_n (show ¬ (141 = 151 ∧ 3 = v5) by omega), eσ227, dk_up_n (show ¬ (141 = 157 ∧ 3 = v5) by omega), eσ226, dk_up_n (show ¬ (141 = 154 ∧ 3 = v5) by omega), eσ225, dk_up_n (show ¬ (141 = 153 ∧ 3 = v5) by omega), hfσ221 141 3 (by omega), eσ218, dk_up_n (show ¬ (141 = 152 ∧ 3 = v5) by omega), hfσ214 141 3 (by omega), hfσ210 141 3 (by omega), hfσ8 141 3 (by omega)]
                refine dk_cV (pc' := 130) (as := [(0, v5), (0, b)]) hE lk_X11_311 (ct_X11_readSteps l G hGd v5 b) dX11_readPart_127 rfl is_141 rfl (by decide) (Nat.le_of_ble_eq_true rfl) ⟨rfl, (NX_tk (hG109).1), (by omega), (by omega)⟩ rfl (fun r324 σ323 hr324 hor324 => ?_)
                obtain ⟨rfl, hfσ323, hpr324⟩ := hr324
                have H127 := hpr324
                have gi325 : RX r σ σ323 := RX_tr hG109 hpr324.1 (fun k_ j_ h_ => hfσ323 k_ j_ (by omega))
                have hy_ := H127.2
                have hx_ := H127.1.2.2.1
                have hw_ := H127.1.2.2.2.2
                refine dk_goto (tgt := 109) hE dX11_readPart_130 (by decide) ?_
                exact ih109 σ323 (by omega) (fun k_ j_ h_ => by rw [hfσ323 k_ j_ (fun w_ => h_ (w_.elim (fun x0_ => Or.inl (x0_)) (fun y0_ => y0_.elim (fun x1_ => Or.inr (Or.inl (x1_))) (fun y1_ => y1_.elim (fun x2_ => Or.inr (Or.inr (Or.inl (x2_)))) (fun y2_ => y2_.elim (fun x3_ => Or.inr (Or.inr (Or.inr (Or.inl (x3_))))) (fun y3_ => y3_.elim (fun x4_ => Or.inr (Or.inr (Or.inr (Or.inr (Or.inl (x4_)))))) (fun y4_ => y4_.elim (fun x5_ => Or.inr (Or.inr (Or.inr (Or.inr (Or.inr (Or.inl (x5_))))))) (fun y5_ => y5_.elim (fun x6_ => Or.inr (Or.inr (Or.inr (Or.inr (Or.inr (Or.inr (Or.inl (x6_)))))))) (fun y6_ => Or.inr (Or.inr (Or.inr (Or.inr (Or.inr (Or.inr (Or.inr (y6_)))))))))))))))), hF109 k_ j_ (fun w_ => h_ (w_.elim (fun x0_ => Or.inl (x0_)) (fun y0_ => y0_.elim (fun x1_ => Or.inr (Or.inl (x1_))) (fun y1_ => y1_.elim (fun x2_ => Or.inr (Or.inr (Or.inl (x2_)))) (fun y2_ => y2_.elim (fun x3_ => Or.inr (Or.inr (Or.inr (Or.inl (x3_))))) (fun y3_ => y3_.elim (fun x4_ => Or.inr (Or.inr (Or.inr (Or.inr (Or.inl (x4_)))))) (fun y4_ => y4_.elim (fun x5_ => Or.inr (Or.inr (Or.inr (Or.inr (Or.inr (Or.inl (x5_))))))) (fun y5_ => y5_.elim (fun x6_ => Or.inr (Or.inr (Or.inr (Or.inr (Or.inr (Or.inr (Or.inl (x6_)))))))) (fun y6_ => Or.inr (Or.inr (Or.inr (Or.inr (Or.inr (Or.inr (Or.inr (y6_))))))))))))))))]) gi325
            · skip
              refine dk_if_eq (tgt := 133) (pc' := 116) hE dX11_readPart_113 (by decide) rfl (fun hc328 => ?_) (fun hc328 => absurd hc328 (by decide))
              refine dk_aload_n (pc' := 134) hE dX11_readPart_133 rfl rfl rfl ?_
              refine gf_11_13 (pc' := 137) (w := 146) hE fl_X11_27 dX11_readPart_134 is_141 rfl rfl ?_
              refine dk_aload_n (pc' := 138) hE dX11_readPart_137 rfl rfl rfl ?_
              refine gf_11_28 (pc' := 141) hE fl_X11_269 dX11_readPart_138 is_141 rfl (fun v329 hv329 htv329 hbv329 => ?_)
              have hq329 : r = v329 := (show v329 = r by rw [hv329, hF109 141 28 (by omega), hfσ294 141 28 (by omega), eσ231, dk_up_n (show ¬ (141 = 151 ∧ 28 = v5) by omega), hv228]).symm
              subst hq329
              clear htv329 hbv329
              refine dk_dup2 (pc' := 142) hE dX11_readPart_141 (show (0 : Nat) ≠ 3 by decide) (show (4 : Nat) ≠ 3 by decide) rfl ?_
              refine ga_74 (pc' := 143) hE dX11_readPart_142 is_146 (by omega) rfl (fun v330 hv330 htv330 hbv330 => ?_)
              have hq330 : q = v330 := (show v330 = q by rw [hv330, hF109 146 r (by omega), hfσ294 146 r (by omega), eσ231, dk_up_n (show ¬ (146 = 151 ∧ r = v5) by omega), eσ227, dk_up_n (show ¬ (146 = 157 ∧ r = v5) by omega), eσ226, dk_up_n (show ¬ (146 = 154 ∧ r = v5) by omega), eσ225, dk_up_n (show ¬ (146 = 153 ∧ r = v5) by omega), hfσ221 146 r (by omega), eσ218, dk_up_n (show ¬ (146 = 152 ∧ r = v5) by omega), hfσ214 146 r (by omega), hfσ210 146 r (by omega), hfσ8 146 r (by omega), hv4]).symm
              subst hq330
              clear htv330 hbv330
              refine dk_iconst (pc' := 144) hE dX11_readPart_143 (by decide) rfl ?_
              obtain ⟨v331, hv331⟩ : ∃ z : Int, z = q + 1 := ⟨_, rfl⟩
              refine dk_iadd (pc' := 145) hE dX11_readPart_144 hv331.symm (by omega) rfl ?_
              refine pa_74 (pc' := 146) hE dX11_readPart_145 is_146 (by omega) (by omega) rfl (fun σ332 eσ332 => ?_)
              refine dk_aload_n (pc' := 147) hE dX11_readPart_146 rfl rfl rfl ?_
              refine gf_11_23 (pc' := 150) (w := 156) hE fl_X11_57 dX11_readPart_147 is_141 rfl rfl ?_
              refine dk_iconst (pc' := 151) hE dX11_readPart_150 (by decide) rfl ?_
              refine dk_aload_n (pc' := 152) hE dX11_readPart_151 rfl rfl rfl ?_
              refine gf_11_28 (pc' := 155) hE fl_X11_269 dX11_readPart_152 is_141 rfl (fun v333 hv333 htv333 hbv333 => ?_)
              have hq333 : r = v333 := (show v333 = r by rw [hv333, eσ332, dk_up_n (show ¬ (141 = 146 ∧ 28 = r) by omega), hv329]).symm
              subst hq333
              clear htv333 hbv333
              obtain ⟨v334, hv334⟩ : ∃ z : Int, z = 4 * r := ⟨_, rfl⟩
              refine dk_imul (pc' := 156) hE dX11_readPart_155 hv334.symm (by omega) rfl ?_
              refine dk_aload_n (pc' := 157) hE dX11_readPart_156 rfl rfl rfl ?_
              refine gf_11_12 (pc' := 160) (w := 145) hE fl_X11_24 dX11_readPart_157 is_141 rfl rfl ?_
              refine dk_aload_n (pc' := 161) hE dX11_readPart_160 rfl rfl rfl ?_
              refine gf_11_28 (pc' := 164) hE fl_X11_269 dX11_readPart_161 is_141 rfl (fun v335 hv335 htv335 hbv335 => ?_)
              have hq335 : r = v335 := (show v335 = r by rw [hv335, hv333]).symm
              subst hq335
              clear htv335 hbv335
              refine ga_73 (pc' := 165) hE dX11_readPart_164 is_145 (by omega) rfl (fun v336 hv336 htv336 hbv336 => ?_)
              have hq336 : w = v336 := (show v336 = w by rw [hv336, eσ332, dk_up_n (show ¬ (145 = 146 ∧ r = r) by omega), hF109 145 r (by omega), hfσ294 145 r (by omega), eσ231, dk_up_n (show ¬ (145 = 151 ∧ r = v5) by omega), hv229]).symm
              subst hq336
              clear htv336 hbv336
              obtain ⟨v337, hv337⟩ : ∃ z : Int, z = v334 + w := ⟨_, rfl⟩
              refine dk_iadd (pc' := 166) hE dX11_readPart_165 hv337.symm (by omega) rfl ?_
              refine dk_iconst (pc' := 167) hE dX11_readPart_166 (by decide) rfl ?_
              obtain ⟨v338, hv338⟩ : ∃ z : Int, z = v337 - 1 := ⟨_, rfl⟩
              refine dk_isub (pc' := 168) hE dX11_readPart_167 hv338.symm (by omega) rfl ?_
              refine dk_dup2 (pc' := 169) hE dX11_readPart_168 (show (0 : Nat) ≠ 3 by decide) (show (4 : Nat) ≠ 3 by decide) rfl ?_
              refine ga_84 (pc' := 170) hE dX11_readPart_169 is_156 (by omega) rfl (fun v339 hv339 htv339 hbv339 => ?_)
              have h8i := h8 v338 (by omega)
              have h8j : v339 = σ 156 v338 := by rw [hv339, eσ332, dk_up_n (show ¬ (156 = 146 ∧ v338 = r) by omega), hF109 156 v338 (by omega), hfσ294 156 v338 (by omega), eσ231, dk_up_n (show ¬ (156 = 151 ∧ v338 = v5) by omega), eσ227, dk_up_n (show ¬ (156 = 157 ∧ v338 = v5) by omega), eσ226, dk_up_n (show ¬ (156 = 154 ∧ v338 = v5) by omega), eσ225, dk_up_n (show ¬ (156 = 153 ∧ v338 = v5) by omega), hfσ221 156 v338 (by omega), eσ218, dk_up_n (show ¬ (156 = 152 ∧ v338 = v5) by omega), hfσ214 156 v338 (by omega), hfσ210 156 v338 (by omega), hfσ8 156 v338 (by omega)]
              refine dk_iconst (pc' := 171) hE dX11_readPart_170 (by decide) rfl ?_
              obtain ⟨v340, hv340⟩ : ∃ z : Int, z = v339 + 1 := ⟨_, rfl⟩
              refine dk_iadd (pc' := 172) hE dX11_readPart_171 hv340.symm (by omega) rfl ?_
              refine pa_84 (pc' := 173) hE dX11_readPart_172 is_156 (by omega) trivial rfl (fun σ341 eσ341 => ?_)
              have hz342 : σ109c 146 r = σ 146 r := by rw [hF109 146 r (by omega), hfσ294 146 r (by omega), eσ231, dk_up_n (show ¬ (146 = 151 ∧ r = v5) by omega), eσ227, dk_up_n (show ¬ (146 = 157 ∧ r = v5) by omega), eσ226, dk_up_n (show ¬ (146 = 154 ∧ r = v5) by omega), eσ225, dk_up_n (show ¬ (146 = 153 ∧ r = v5) by omega), hfσ221 146 r (by omega), eσ218, dk_up_n (show ¬ (146 = 152 ∧ r = v5) by omega), hfσ214 146 r (by omega), hfσ210 146 r (by omega), hfσ8 146 r (by omega)]
              have hz343 : σ109c 151 v5 = v230 := by rw [hF109 151 v5 (by omega), hfσ294 151 v5 (by omega), eσ231, dk_up_s]
              have hz344 : σ109c 156 v338 = σ 156 v338 := by rw [hF109 156 v338 (by omega), hfσ294 156 v338 (by omega), eσ231, dk_up_n (show ¬ (156 = 151 ∧ v338 = v5) by omega), eσ227, dk_up_n (show ¬ (156 = 157 ∧ v338 = v5) by omega), eσ226, dk_up_n (show ¬ (156 = 154 ∧ v338 = v5) by omega), eσ225, dk_up_n (show ¬ (156 = 153 ∧ v338 = v5) by omega), hfσ221 156 v338 (by omega), eσ218, dk_up_n (show ¬ (156 = 152 ∧ v338 = v5) by omega), hfσ214 156 v338 (by omega), hfσ210 156 v338 (by omega), hfσ8 156 v338 (by omega)]
              have gi345 : RX r σ σ341 := ⟨NX_fr (hG109).1 (fun k_ j_ h_ => by rw [eσ341, dk_up_n (by omega), eσ332, dk_up_n (by omega)]), TI_part (q := q) (w := w - 1) (p := v5) (hG109).2 (by omega) (by omega) (by omega) (by omega) (by omega) (by omega) hv339 (by omega) (by omega) (by omega) eσ332 eσ341⟩
              have hz346 : σ341 147 r = n + 1 := by rw [eσ341, dk_up_n (show ¬ (147 = 156 ∧ r = v338) by omega), eσ332, dk_up_n (show ¬ (147 = 146 ∧ r = r) by omega), hF109 147 r (by omega), hfσ294 147 r (by omega), eσ231, dk_up_n (show ¬ (147 = 151 ∧ r = v5) by omega), eσ227, dk_up_n (show ¬ (147 = 157 ∧ r = v5) by omega), eσ226, dk_up_n (show ¬ (147 = 154 ∧ r = v5) by omega), eσ225, dk_up_n (show ¬ (147 = 153 ∧ r = v5) by omega), hfσ221 147 r (by omega), eσ218, dk_up_n (show ¬ (147 = 152 ∧ r = v5) by omega), hfσ214 147 r (by omega), hfσ210 147 r (by omega), (hpr9.2).symm]
              have hz347 : σ341 146 r = v331 := by rw [eσ341, dk_up_n (show ¬ (146 = 156 ∧ r = v338) by omega), eσ332, dk_up_s]
              exact dk_vret (st := []) hE hR dX11_readPart_173 ⟨rfl, (fun k_ j_ h_ => by rw [eσ341, dk_up_n (show ¬ (k_ = 156 ∧ j_ = v338) from fun q_ => h_ (Or.inr (Or.inr (Or.inr (Or.inr (Or.inr (Or.inr (Or.inr (Or.inr (Or.inl (dk_wr (lo := 151) (hi := 157) q_.1 (by decide)))))))))))), eσ332, dk_up_n (show ¬ (k_ = 146 ∧ j_ = r) from fun q_ => h_ (Or.inr (Or.inr (Or.inr (Or.inr (Or.inr (Or.inr (Or.inr (Or.inl (dk_wr (lo := 146) (hi := 147) q_.1 (by decide))))))))))), hF109 k_ j_ (fun w_ => h_ (w_.elim (fun x0_ => Or.inl (x0_)) (fun y0_ => y0_.elim (fun x1_ => Or.inr (Or.inl (x1_))) (fun y1_ => y1_.elim (fun x2_ => Or.inr (Or.inr (Or.inl (x2_)))) (fun y2_ => y2_.elim (fun x3_ => Or.inr (Or.inr (Or.inr (Or.inl (x3_))))) (fun y3_ => y3_.elim (fun x4_ => Or.inr (Or.inr (Or.inr (Or.inr (Or.inl (x4_)))))) (fun y4_ => y4_.elim (fun x5_ => Or.inr (Or.inr (Or.inr (Or.inr (Or.inr (Or.inl (x5_))))))) (fun y5_ => y5_.elim (fun x6_ => Or.inr (Or.inr (Or.inr (Or.inr (Or.inr (Or.inr (Or.inl (x6_)))))))) (fun y6_ => Or.inr (Or.inr (Or.inr (Or.inr (Or.inr (Or.inr (Or.inr (Or.inr (Or.inl (dk_wrr (lo := 151) (hi := 157) y6_ (by decide) (by decide))))))))))))))))))), hfσ294 k_ j_ (fun w_ => h_ (w_.elim (fun x0_ => Or.inl (x0_)) (fun y0_ => Or.inr (Or.inl (y0_))))), eσ231, dk_up_n (show ¬ (k_ = 151 ∧ j_ = v5) from fun q_ => h_ (Or.inr (Or.inr (Or.inr (Or.inr (Or.inr (Or.inr (Or.inr (Or.inr (Or.inl (dk_wr (lo := 151) (hi := 157) q_.1 (by decide)))))))))))), eσ227, dk_up_n (show ¬ (k_ = 157 ∧ j_ = v5) from fun q_ => h_ (Or.inr (Or.inr (Or.inr (Or.inr (Or.inr (Or.inr (Or.inr (Or.inr (Or.inl (dk_wr (lo := 151) (hi := 157) q_.1 (by decide)))))))))))), eσ226, dk_up_n (show ¬ (k_ = 154 ∧ j_ = v5) from fun q_ => h_ (Or.inr (Or.inr (Or.inr (Or.inr (Or.inr (Or.inr (Or.inr (Or.inr (Or.inl (dk_wr (lo := 151) (hi := 157) q_.1 (by decide)))))))))))), eσ225, dk_up_n (show ¬ (k_ = 153 ∧ j_ = v5) from fun q_ => h_ (Or.inr (Or.inr (Or.inr (Or.inr (Or.inr (Or.inr (Or.inr (Or.inr (Or.inl (dk_wr (lo := 151) (hi := 157) q_.1 (by decide)))))))))))), hfσ221 k_ j_ (fun w_ => h_ (w_.elim (fun x0_ => Or.inl (x0_)) (fun y0_ => y0_.elim (fun x1_ => Or.inr (Or.inl (x1_))) (fun y1_ => y1_.elim (fun x2_ => Or.inr (Or.inr (Or.inl (x2_)))) (fun y2_ => y2_.elim (fun x3_ => Or.inr (Or.inr (Or.inr (Or.inl (x3_))))) (fun y3_ => y3_.elim (fun x4_ => Or.inr (Or.inr (Or.inr (Or.inr (Or.inl (x4_)))))) (fun y4_ => y4_.elim (fun x5_ => Or.inr (Or.inr (Or.inr (Or.inr (Or.inr (Or.inl (x5_))))))) (fun y5_ => Or.inr (Or.inr (Or.inr (Or.inr (Or.inr (Or.inr (Or.inl (y5_))))))))))))))), eσ218, dk_up_n (show ¬ (k_ = 152 ∧ j_ = v5) from fun q_ => h_ (Or.inr (Or.inr (Or.inr (Or.inr (Or.inr (Or.inr (Or.inr (Or.inr (Or.inl (dk_wr (lo := 151) (hi := 157) q_.1 (by decide)))))))))))), hfσ214 k_ j_ (fun w_ => h_ (w_.elim (fun x0_ => Or.inl (x0_)) (fun y0_ => y0_.elim (fun x1_ => Or.inr (Or.inl (x1_))) (fun y1_ => y1_.elim (fun x2_ => Or.inr (Or.inr (Or.inl (x2_)))) (fun y2_ => y2_.elim (fun x3_ => Or.inr (Or.inr (Or.inr (Or.inl (x3_))))) (fun y3_ => y3_.elim (fun x4_ => Or.inr (Or.inr (Or.inr (Or.inr (Or.inl (x4_)))))) (fun y4_ => y4_.elim (fun x5_ => Or.inr (Or.inr (Or.inr (Or.inr (Or.inr (Or.inl (x5_))))))) (fun y5_ => Or.inr (Or.inr (Or.inr (Or.inr (Or.inr (Or.inr (Or.inl (y5_))))))))))))))), hfσ210 k_ j_ (fun w_ => h_ (w_.elim (fun x0_ => Or.inl (x0_)) (fun y0_ => y0_.elim (fun x1_ => Or.inr (Or.inl (x1_))) (fun y1_ => y1_.elim (fun x2_ => Or.inr (Or.inr (Or.inl (x2_)))) (fun y2_ => y2_.elim (fun x3_ => Or.inr (Or.inr (Or.inr (Or.inl (x3_))))) (fun y3_ => y3_.elim (fun x4_ => Or.inr (Or.inr (Or.inr (Or.inr (Or.inl (x4_)))))) (fun y4_ => y4_.elim (fun x5_ => Or.inr (Or.inr (Or.inr (Or.inr (Or.inr (Or.inl (x5_))))))) (fun y5_ => Or.inr (Or.inr (Or.inr (Or.inr (Or.inr (Or.inr (Or.inl (y5_))))))))))))))), hfσ8 k_ j_ (fun w_ => h_ (w_.elim (fun x0_ => Or.inl (x0_)) (fun y0_ => y0_.elim (fun x1_ => Or.inr (Or.inl (x1_))) (fun y1_ => y1_.elim (fun x2_ => Or.inr (Or.inr (Or.inl (x2_)))) (fun y2_ => y2_.elim (fun x3_ => Or.inr (Or.inr (Or.inr (Or.inl (x3_))))) (fun y3_ => y3_.elim (fun x4_ => Or.inr (Or.inr (Or.inr (Or.inr (Or.inl (x4_)))))) (fun y4_ => y4_.elim (fun x5_ => Or.inr (Or.inr (Or.inr (Or.inr (Or.inr (Or.inl (x5_))))))) (fun y5_ => y5_.elim (fun x6_ => Or.inr (Or.inr (Or.inr (Or.inr (Or.inr (Or.inr (Or.inl (x6_)))))))) (fun y6_ => y6_.elim (fun x7_ => Or.inr (Or.inr (Or.inr (Or.inr (Or.inr (Or.inr (Or.inr (Or.inl (dk_wr (lo := 146) (hi := 147) x7_ (by decide)))))))))) (fun y7_ => Or.inr (Or.inr (Or.inr (Or.inr (Or.inr (Or.inr (Or.inr (Or.inr (Or.inr (y7_)))))))))))))))))))]), ⟨gi345, by omega, by omega⟩⟩
        exact lp109 _ σ294 (Nat.lt_succ_self _) (fun k_ j_ h_ => rfl) gi296
    · skip
      refine dk_if_eq (tgt := 109) (pc' := 97) hE dX11_readPart_94 (by decide) rfl (fun hc350 => ?_) (fun hc350 => absurd hc350 (by decide))
      have lp109 : ∀ (N_ : Nat) (σ109c : dkS), (6 * (1402 - σ109c 141 6) - σ109c 141 4).toNat < N_ → ((∀ k_ j_ : Int, ¬ ((k_ = 141 ∧ j_ = 4) ∨ (k_ = 141 ∧ j_ = 5) ∨ (k_ = 141 ∧ j_ = 6) ∨ (k_ = 141 ∧ j_ = 7) ∨ (k_ = 141 ∧ j_ = 8) ∨ (k_ = 141 ∧ j_ = 9) ∨ (k_ = 141 ∧ j_ = 10) ∨ (154 ≤ k_ ∧ k_ ≤ 155)) → σ109c k_ j_ = σ231 k_ j_)) → (RX r σ σ109c) → dk_PJ E 109 [(4, 141), (0, b), (0, v5)] [] 190 σ109c := by
        intro N109
        induction N109 with
        | zero => intro  σ109c hm; exact absurd hm (Nat.not_lt_zero _)
        | succ N109 ih109 =>
          intro  σ109c hm109 hF109 hG109 
          have hTK := NX_tk (hG109).1
          have hTK1 := hTK.1
          have hTK2 := hTK.2.1
          have hTK3 := (hG109).1.1
          refine dk_aload_n (pc' := 110) hE dX11_readPart_109 rfl rfl rfl ?_
          refine dk_cV (pc' := 113) (as := []) hE lk_X11_250 (ct_X11_isGood l G hGd) dX11_readPart_110 rfl is_141 rfl (by decide) (Nat.le_of_ble_eq_true rfl) rfl rfl (fun r352 σ351 hr352 hor352 => ?_)
          obtain ⟨v353, rfl, hfσ351, hpr352⟩ := hr352
          have hsσ351 : σ109c = σ351 := (funext (fun k => funext (fun j => hfσ351 k j not_false))).symm
          subst hsσ351
          rcases hpr352 with ⟨rfl, hpr352⟩ | ⟨rfl, hpr352⟩
          · skip
            refine dk_if_eq (tgt := 133) (pc' := 116) hE dX11_readPart_113 (by decide) rfl (fun hc354 => absurd hc354 (by decide)) (fun hc354 => ?_)
            refine dk_aload_n (pc' := 117) hE dX11_readPart_116 rfl rfl rfl ?_
            refine gf_11_8 (pc' := 120) hE fl_X11_222 dX11_readPart_117 is_141 rfl (fun v355 hv355 htv355 hbv355 => ?_)
            refine dk_iconst (pc' := 121) hE dX11_readPart_120 (by decide) rfl ?_
            refine dk_icmp_ne (tgt := 133) (pc' := 124) hE dX11_readPart_121 (by decide) rfl (fun hc356 => ?_) (fun hc356 => ?_)
            · skip
              refine dk_aload_n (pc' := 134) hE dX11_readPart_133 rfl rfl rfl ?_
              refine gf_11_13 (pc' := 137) (w := 146) hE fl_X11_27 dX11_readPart_134 is_141 rfl rfl ?_
              refine dk_aload_n (pc' := 138) hE dX11_readPart_137 rfl rfl rfl ?_
              refine gf_11_28 (pc' := 141) hE fl_X11_269 dX11_readPart_138 is_141 rfl (fun v357 hv357 htv357 hbv357 => ?_)
              have hq357 : r = v357 := (show v357 = r by rw [hv357, hF109 141 28 (by omega), eσ231, dk_up_n (show ¬ (141 = 151 ∧ 28 = v5) by omega), hv228]).symm
              subst hq357
              clear htv357 hbv357
              refine dk_dup2 (pc' := 142) hE dX11_readPart_141 (show (0 : Nat) ≠ 3 by decide) (show (4 : Nat) ≠ 3 by decide) rfl ?_
              refine ga_74 (pc' := 143) hE dX11_readPart_142 is_146 (by omega) rfl (fun v358 hv358 htv358 hbv358 => ?_)
              have hq358 : q = v358 := (show v358 = q by rw [hv358, hF109 146 r (by omega), eσ231, dk_up_n (show ¬ (146 = 151 ∧ r = v5) by omega), eσ227, dk_up_n (show ¬ (146 = 157 ∧ r = v5) by omega), eσ226, dk_up_n (show ¬ (146 = 154 ∧ r = v5) by omega), eσ225, dk_up_n (show ¬ (146 = 153 ∧ r = v5) by omega), hfσ221 146 r (by omega), eσ218, dk_up_n (show ¬ (146 = 152 ∧ r = v5) by omega), hfσ214 146 r (by omega), hfσ210 146 r (by omega), hfσ8 146 r (by omega), hv4]).symm
              subst hq358
              clear htv358 hbv358
              refine dk_iconst (pc' := 144) hE dX11_readPart_143 (by decide) rfl ?_
              obtain ⟨v359, hv359⟩ : ∃ z : Int, z = q + 1 := ⟨_, rfl⟩
              refine dk_iadd (pc' := 145) hE dX11_readPart_144 hv359.symm (by omega) rfl ?_
              refine pa_74 (pc' := 146) hE dX11_readPart_145 is_146 (by omega) (by omega) rfl (fun σ360 eσ360 => ?_)
              refine dk_aload_n (pc' := 147) hE dX11_readPart_146 rfl rfl rfl ?_
              refine gf_11_23 (pc' := 150) (w := 156) hE fl_X11_57 dX11_readPart_147 is_141 rfl rfl ?_
              refine dk_iconst (pc' := 151) hE dX11_readPart_150 (by decide) rfl ?_
              refine dk_aload_n (pc' := 152) hE dX11_readPart_151 rfl rfl rfl ?_
              refine gf_11_28 (pc' := 155) hE fl_X11_269 dX11_readPart_152 is_141 rfl (fun v361 hv361 htv361 hbv361 => ?_)
              have hq361 : r = v361 := (show v361 = r by rw [hv361, eσ360, dk_up_n (show ¬ (141 = 146 ∧ 28 = r) by omega), hv357]).symm
              subst hq361
              clear htv361 hbv361
              obtain ⟨v362, hv362⟩ : ∃ z : Int, z = 4 * r := ⟨_, rfl⟩
              refine dk_imul (pc' := 156) hE dX11_readPart_155 hv362.symm (by omega) rfl ?_
              refine dk_aload_n (pc' := 157) hE dX11_readPart_156 rfl rfl rfl ?_
              refine gf_11_12 (pc' := 160) (w := 145) hE fl_X11_24 dX11_readPart_157 is_141 rfl rfl ?_
              refine dk_aload_n (pc' := 161) hE dX11_readPart_160 rfl rfl rfl ?_
              refine gf_11_28 (pc' := 164) hE fl_X11_269 dX11_readPart_161 is_141 rfl (fun v363 hv363 htv363 hbv363 => ?_)
              have hq363 : r = v363 := (show v363 = r by rw [hv363, hv361]).symm
              subst hq363
              clear htv363 hbv363
              refine ga_73 (pc' := 165) hE dX11_readPart_164 is_145 (by omega) rfl (fun v364 hv364 htv364 hbv364 => ?_)
              have hq364 : w = v364 := (show v364 = w by rw [hv364, eσ360, dk_up_n (show ¬ (145 = 146 ∧ r = r) by omega), hF109 145 r (by omega), eσ231, dk_up_n (show ¬ (145 = 151 ∧ r = v5) by omega), hv229]).symm
              subst hq364
              clear htv364 hbv364
              obtain ⟨v365, hv365⟩ : ∃ z : Int, z = v362 + w := ⟨_, rfl⟩
              refine dk_iadd (pc' := 166) hE dX11_readPart_165 hv365.symm (by omega) rfl ?_
              refine dk_iconst (pc' := 167) hE dX11_readPart_166 (by decide) rfl ?_
              obtain ⟨v366, hv366⟩ : ∃ z : Int, z = v365 - 1 := ⟨_, rfl⟩
              refine dk_isub (pc' := 168) hE dX11_readPart_167 hv366.symm (by omega) rfl ?_
              refine dk_dup2 (pc' := 169) hE dX11_readPart_168 (show (0 : Nat) ≠ 3 by decide) (show (4 : Nat) ≠ 3 by decide) rfl ?_
              refine ga_84 (pc' := 170) hE dX11_readPart_169 is_156 (by omega) rfl (fun v367 hv367 htv367 hbv367 => ?_)
              have h8i := h8 v366 (by omega)
              have h8j : v367 = σ 156 v366 := by rw [hv367, eσ360, dk_up_n (show ¬ (156 = 146 ∧ v366 = r) by omega), hF109 156 v366 (by omega), eσ231, dk_up_n (show ¬ (156 = 151 ∧ v366 = v5) by omega), eσ227, dk_up_n (show ¬ (156 = 157 ∧ v366 = v5) by omega), eσ226, dk_up_n (show ¬ (156 = 154 ∧ v366 = v5) by omega), eσ225, dk_up_n (show ¬ (156 = 153 ∧ v366 = v5) by omega), hfσ221 156 v366 (by omega), eσ218, dk_up_n (show ¬ (156 = 152 ∧ v366 = v5) by omega), hfσ214 156 v366 (by omega), hfσ210 156 v366 (by omega), hfσ8 156 v366 (by omega)]
              refine dk_iconst (pc' := 171) hE dX11_readPart_170 (by decide) rfl ?_
              obtain ⟨v368, hv368⟩ : ∃ z : Int, z = v367 + 1 := ⟨_, rfl⟩
              refine dk_iadd (pc' := 172) hE dX11_readPart_171 hv368.symm (by omega) rfl ?_
              refine pa_84 (pc' := 173) hE dX11_readPart_172 is_156 (by omega) trivial rfl (fun σ369 eσ369 => ?_)
              have hz370 : σ109c 146 r = σ 146 r := by rw [hF109 146 r (by omega), eσ231, dk_up_n (show ¬ (146 = 151 ∧ r = v5) by omega), eσ227, dk_up_n (show ¬ (146 = 157 ∧ r = v5) by omega), eσ226, dk_up_n (show ¬ (146 = 154 ∧ r = v5) by omega), eσ225, dk_up_n (show ¬ (146 = 153 ∧ r = v5) by omega), hfσ221 146 r (by omega), eσ218, dk_up_n (show ¬ (146 = 152 ∧ r = v5) by omega), hfσ214 146 r (by omega), hfσ210 146 r (by omega), hfσ8 146 r (by omega)]
              have hz371 : σ109c 151 v5 = v230 := by rw [hF109 151 v5 (by omega), eσ231, dk_up_s]
              have hz372 : σ109c 156 v366 = σ 156 v366 := by rw [hF109 156 v366 (by omega), eσ231, dk_up_n (show ¬ (156 = 151 ∧ v366 = v5) by omega), eσ227, dk_up_n (show ¬ (156 = 157 ∧ v366 = v5) by omega), eσ226, dk_up_n (show ¬ (156 = 154 ∧ v366 = v5) by omega), eσ225, dk_up_n (show ¬ (156 = 153 ∧ v366 = v5) by omega), hfσ221 156 v366 (by omega), eσ218, dk_up_n (show ¬ (156 = 152 ∧ v366 = v5) by omega), hfσ214 156 v366 (by omega), hfσ210 156 v366 (by omega), hfσ8 156 v366 (by omega)]
              have gi373 : RX r σ σ369 := ⟨NX_fr (hG109).1 (fun k_ j_ h_ => by rw [eσ369, dk_up_n (by omega), eσ360, dk_up_n (by omega)]), TI_part (q := q) (w := w - 1) (p := v5) (hG109).2 (by omega) (by omega) (by omega) (by omega) (by omega) (by omega) hv367 (by omega) (by omega) (by omega) eσ360 eσ369⟩
              have hz374 : σ369 147 r = n + 1 := by rw [eσ369, dk_up_n (show ¬ (147 = 156 ∧ r = v366) by omega), eσ360, dk_up_n (show ¬ (147 = 146 ∧ r = r) by omega), hF109 147 r (by omega), eσ231, dk_up_n (show ¬ (147 = 151 ∧ r = v5) by omega), eσ227, dk_up_n (show ¬ (147 = 157 ∧ r = v5) by omega), eσ226, dk_up_n (show ¬ (147 = 154 ∧ r = v5) by omega), eσ225, dk_up_n (show ¬ (147 = 153 ∧ r = v5) by omega), hfσ221 147 r (by omega), eσ218, dk_up_n (show ¬ (147 = 152 ∧ r = v5) by omega), hfσ214 147 r (by omega), hfσ210 147 r (by omega), (hpr9.2).symm]
              have hz375 : σ369 146 r = v359 := by rw [eσ369, dk_up_n (show ¬ (146 = 156 ∧ r = v366) by omega), eσ360, dk_up_s]
              exact dk_vret (st := []) hE hR dX11_readPart_173 ⟨rfl, (fun k_ j_ h_ => by rw [eσ369, dk_up_n (show ¬ (k_ = 156 ∧ j_ = v366) from fun q_ => h_ (Or.inr (Or.inr (Or.inr (Or.inr (Or.inr (Or.inr (Or.inr (Or.inr (Or.inl (dk_wr (lo := 151) (hi := 157) q_.1 (by decide)))))))))))), eσ360, dk_up_n (show ¬ (k_ = 146 ∧ j_ = r) from fun q_ => h_ (Or.inr (Or.inr (Or.inr (Or.inr (Or.inr (Or.inr (Or.inr (Or.inl (dk_wr (lo := 146) (hi := 147) q_.1 (by decide))))))))))), hF109 k_ j_ (fun w_ => h_ (w_.elim (fun x0_ => Or.inl (x0_)) (fun y0_ => y0_.elim (fun x1_ => Or.inr (Or.inl (x1_))) (fun y1_ => y1_.elim (fun x2_ => Or.inr (Or.inr (Or.inl (x2_)))) (fun y2_ => y2_.elim (fun x3_ => Or.inr (Or.inr (Or.inr (Or.inl (x3_))))) (fun y3_ => y3_.elim (fun x4_ => Or.inr (Or.inr (Or.inr (Or.inr (Or.inl (x4_)))))) (fun y4_ => y4_.elim (fun x5_ => Or.inr (Or.inr (Or.inr (Or.inr (Or.inr (Or.inl (x5_))))))) (fun y5_ => y5_.elim (fun x6_ => Or.inr (Or.inr (Or.inr (Or.inr (Or.inr (Or.inr (Or.inl (x6_)))))))) (fun y6_ => Or.inr (Or.inr (Or.inr (Or.inr (Or.inr (Or.inr (Or.inr (Or.inr (Or.inl (dk_wrr (lo := 151) (hi := 157) y6_ (by decide) (by decide))))))))))))))))))), eσ231, dk_up_n (show ¬ (k_ = 151 ∧ j_ = v5) from fun q_ => h_ (Or.inr (Or.inr (Or.inr (Or.inr (Or.inr (Or.inr (Or.inr (Or.inr (Or.inl (dk_wr (lo := 151) (hi := 157) q_.1 (by decide)))))))))))), eσ227, dk_up_n (show ¬ (k_ = 157 ∧ j_ = v5) from fun q_ => h_ (Or.inr (Or.inr (Or.inr (Or.inr (Or.inr (Or.inr (Or.inr (Or.inr (Or.inl (dk_wr (lo := 151) (hi := 157) q_.1 (by decide)))))))))))), eσ226, dk_up_n (show ¬ (k_ = 154 ∧ j_ = v5) from fun q_ => h_ (Or.inr (Or.inr (Or.inr (Or.inr (Or.inr (Or.inr (Or.inr (Or.inr (Or.inl (dk_wr (lo := 151) (hi := 157) q_.1 (by decide)))))))))))), eσ225, dk_up_n (show ¬ (k_ = 153 ∧ j_ = v5) from fun q_ => h_ (Or.inr (Or.inr (Or.inr (Or.inr (Or.inr (Or.inr (Or.inr (Or.inr (Or.inl (dk_wr (lo := 151) (hi := 157) q_.1 (by decide)))))))))))), hfσ221 k_ j_ (fun w_ => h_ (w_.elim (fun x0_ => Or.inl (x0_)) (fun y0_ => y0_.elim (fun x1_ => Or.inr (Or.inl (x1_))) (fun y1_ => y1_.elim (fun x2_ => Or.inr (Or.inr (Or.inl (x2_)))) (fun y2_ => y2_.elim (fun x3_ => Or.inr (Or.inr (Or.inr (Or.inl (x3_))))) (fun y3_ => y3_.elim (fun x4_ => Or.inr (Or.inr (Or.inr (Or.inr (Or.inl (x4_)))))) (fun y4_ => y4_.elim (fun x5_ => Or.inr (Or.inr (Or.inr (Or.inr (Or.inr (Or.inl (x5_))))))) (fun y5_ => Or.inr (Or.inr (Or.inr (Or.inr (Or.inr (Or.inr (Or.inl (y5_))))))))))))))), eσ218, dk_up_n (show ¬ (k_ = 152 ∧ j_ = v5) from fun q_ => h_ (Or.inr (Or.inr (Or.inr (Or.inr (Or.inr (Or.inr (Or.inr (Or.inr (Or.inl (dk_wr (lo := 151) (hi := 157) q_.1 (by decide)))))))))))), hfσ214 k_ j_ (fun w_ => h_ (w_.elim (fun x0_ => Or.inl (x0_)) (fun y0_ => y0_.elim (fun x1_ => Or.inr (Or.inl (x1_))) (fun y1_ => y1_.elim (fun x2_ => Or.inr (Or.inr (Or.inl (x2_)))) (fun y2_ => y2_.elim (fun x3_ => Or.inr (Or.inr (Or.inr (Or.inl (x3_))))) (fun y3_ => y3_.elim (fun x4_ => Or.inr (Or.inr (Or.inr (Or.inr (Or.inl (x4_)))))) (fun y4_ => y4_.elim (fun x5_ => Or.inr (Or.inr (Or.inr (Or.inr (Or.inr (Or.inl (x5_))))))) (fun y5_ => Or.inr (Or.inr (Or.inr (Or.inr (Or.inr (Or.inr (Or.inl (y5_))))))))))))))), hfσ210 k_ j_ (fun w_ => h_ (w_.elim (fun x0_ => Or.inl (x0_)) (fun y0_ => y0_.elim (fun x1_ => Or.inr (Or.inl (x1_))) (fun y1_ => y1_.elim (fun x2_ => Or.inr (Or.inr (Or.inl (x2_)))) (fun y2_ => y2_.elim (fun x3_ => Or.inr (Or.inr (Or.inr (Or.inl (x3_))))) (fun y3_ => y3_.elim (fun x4_ => Or.inr (Or.inr (Or.inr (Or.inr (Or.inl (x4_)))))) (fun y4_ => y4_.elim (fun x5_ => Or.inr (Or.inr (Or.inr (Or.inr (Or.inr (Or.inl (x5_))))))) (fun y5_ => Or.inr (Or.inr (Or.inr (Or.inr (Or.inr (Or.inr (Or.inl (y5_))))))))))))))), hfσ8 k_ j_ (fun w_ => h_ (w_.elim (fun x0_ => Or.inl (x0_)) (fun y0_ => y0_.elim (fun x1_ => Or.inr (Or.inl (x1_))) (fun y1_ => y1_.elim (fun x2_ => Or.inr (Or.inr (Or.inl (x2_)))) (fun y2_ => y2_.elim (fun x3_ => Or.inr (Or.inr (Or.inr (Or.inl (x3_))))) (fun y3_ => y3_.elim (fun x4_ => Or.inr (Or.inr (Or.inr (Or.inr (Or.inl (x4_)))))) (fun y4_ => y4_.elim (fun x5_ => Or.inr (Or.inr (Or.inr (Or.inr (Or.inr (Or.inl (x5_))))))) (fun y5_ => y5_.elim (fun x6_ => Or.inr (Or.inr (Or.inr (Or.inr (Or.inr (Or.inr (Or.inl (x6_)))))))) (fun y6_ => y6_.elim (fun x7_ => Or.inr (Or.inr (Or.inr (Or.inr (Or.inr (Or.inr (Or.inr (Or.inl (dk_wr (lo := 146) (hi := 147) x7_ (by decide)))))))))) (fun y7_ => Or.inr (Or.inr (Or.inr (Or.inr (Or.inr (Or.inr (Or.inr (Or.inr (Or.inr (y7_)))))))))))))))))))]), ⟨gi373, by omega, by omega⟩⟩
            · skip
              refine dk_aload_n (pc' := 125) hE dX11_readPart_124 rfl rfl rfl ?_
              refine dk_iload_n (pc' := 126) hE dX11_readPart_125 rfl rfl rfl ?_
              refine dk_iload_n (pc' := 127) hE dX11_readPart_126 rfl rfl rfl ?_
              have hz376 : σ109c 141 3 = σ 141 3 := by rw [hF109 141 3 (by omega), eσ231, dk_up_n (show ¬ (141 = 151 ∧ 3 = v5) by omega), eσ227, dk_up_n (show ¬ (141 = 157 ∧ 3 = v5) by omega), eσ226, dk_up_n (show ¬ (141 = 154 ∧ 3 = v5) by omega), eσ225, dk_up_n (show ¬ (141 = 153 ∧ 3 = v5) by omega), hfσ221 141 3 (by omega), eσ218, dk_up_n (show ¬ (141 = 152 ∧ 3 = v5) by omega), hfσ214 141 3 (by omega), hfσ210 141 3 (by omega), hfσ8 141 3 (by omega)]
              refine dk_cV (pc' := 130) (as := [(0, v5), (0, b)]) hE lk_X11_311 (ct_X11_readSteps l G hGd v5 b) dX11_readPart_127 rfl is_141 rfl (by decide) (Nat.le_of_ble_eq_true rfl) ⟨rfl, (NX_tk (hG109).1), (by omega), (by omega)⟩ rfl (fun r378 σ377 hr378 hor378 => ?_)
              obtain ⟨rfl, hfσ377, hpr378⟩ := hr378
              have H127 := hpr378
              have gi379 : RX r σ σ377 := RX_tr hG109 hpr378.1 (fun k_ j_ h_ => hfσ377 k_ j_ (by omega))
              have hy_ := H127.2
              have hx_ := H127.1.2.2.1
              have hw_ := H127.1.2.2.2.2
              refine dk_goto (tgt := 109) hE dX11_readPart_130 (by decide) ?_
              exact ih109 σ377 (by omega) (fun k_ j_ h_ => by rw [hfσ377 k_ j_ (fun w_ => h_ (w_.elim (fun x0_ => Or.inl (x0_)) (fun y0_ => y0_.elim (fun x1_ => Or.inr (Or.inl (x1_))) (fun y1_ => y1_.elim (fun x2_ => Or.inr (Or.inr (Or.inl (x2_)))) (fun y2_ => y2_.elim (fun x3_ => Or.inr (Or.inr (Or.inr (Or.inl (x3_))))) (fun y3_ => y3_.elim (fun x4_ => Or.inr (Or.inr (Or.inr (Or.inr (Or.inl (x4_)))))) (fun y4_ => y4_.elim (fun x5_ => Or.inr (Or.inr (Or.inr (Or.inr (Or.inr (Or.inl (x5_))))))) (fun y5_ => y5_.elim (fun x6_ => Or.inr (Or.inr (Or.inr (Or.inr (Or.inr (Or.inr (Or.inl (x6_)))))))) (fun y6_ => Or.inr (Or.inr (Or.inr (Or.inr (Or.inr (Or.inr (Or.inr (y6_)))))))))))))))), hF109 k_ j_ (fun w_ => h_ (w_.elim (fun x0_ => Or.inl (x0_)) (fun y0_ => y0_.elim (fun x1_ => Or.inr (Or.inl (x1_))) (fun y1_ => y1_.elim (fun x2_ => Or.inr (Or.inr (Or.inl (x2_)))) (fun y2_ => y2_.elim (fun x3_ => Or.inr (Or.inr (Or.inr (Or.inl (x3_))))) (fun y3_ => y3_.elim (fun x4_ => Or.inr (Or.inr (Or.inr (Or.inr (Or.inl (x4_)))))) (fun y4_ => y4_.elim (fun x5_ => Or.inr (Or.inr (Or.inr (Or.inr (Or.inr (Or.inl (x5_))))))) (fun y5_ => y5_.elim (fun x6_ => Or.inr (Or.inr (Or.inr (Or.inr (Or.inr (Or.inr (Or.inl (x6_)))))))) (fun y6_ => Or.inr (Or.inr (Or.inr (Or.inr (Or.inr (Or.inr (Or.inr (y6_))))))))))))))))]) gi379
          · skip
            refine dk_if_eq (tgt := 133) (pc' := 116) hE dX11_readPart_113 (by decide) rfl (fun hc382 => ?_) (fun hc382 => absurd hc382 (by decide))
            refine dk_aload_n (pc' := 134) hE dX11_readPart_133 rfl rfl rfl ?_
            refine gf_11_13 (pc' := 137) (w := 146) hE fl_X11_27 dX11_readPart_134 is_141 rfl rfl ?_
            refine dk_aload_n (pc' := 138) hE dX11_readPart_137 rfl rfl rfl ?_
            refine gf_11_28 (pc' := 141) hE fl_X11_269 dX11_readPart_138 is_141 rfl (fun v383 hv383 htv383 hbv383 => ?_)
            have hq383 : r = v383 := (show v383 = r by rw [hv383, hF109 141 28 (by omega), eσ231, dk_up_n (show ¬ (141 = 151 ∧ 28 = v5) by omega), hv228]).symm
            subst hq383
            clear htv383 hbv383
            refine dk_dup2 (pc' := 142) hE dX11_readPart_141 (show (0 : Nat) ≠ 3 by decide) (show (4 : Nat) ≠ 3 by decide) rfl ?_
            refine ga_74 (pc' := 143) hE dX11_readPart_142 is_146 (by omega) rfl (fun v384 hv384 htv384 hbv384 => ?_)
            have hq384 : q = v384 := (show v384 = q by rw [hv384, hF109 146 r (by omega), eσ231, dk_up_n (show ¬ (146 = 151 ∧ r = v5) by omega), eσ227, dk_up_n (show ¬ (146 = 157 ∧ r = v5) by omega), eσ226, dk_up_n (show ¬ (146 = 154 ∧ r = v5) by omega), eσ225, dk_up_n (show ¬ (146 = 153 ∧ r = v5) by omega), hfσ221 146 r (by omega), eσ218, dk_up_n (show ¬ (146 = 152 ∧ r = v5) by omega), hfσ214 146 r (by omega), hfσ210 146 r (by omega), hfσ8 146 r (by omega), hv4]).symm
            subst hq384
            clear htv384 hbv384
            refine dk_iconst (pc' := 144) hE dX11_readPart_143 (by decide) rfl ?_
            obtain ⟨v385, hv385⟩ : ∃ z : Int, z = q + 1 := ⟨_, rfl⟩
            refine dk_iadd (pc' := 145) hE dX11_readPart_144 hv385.symm (by omega) rfl ?_
            refine pa_74 (pc' := 146) hE dX11_readPart_145 is_146 (by omega) (by omega) rfl (fun σ386 eσ386 => ?_)
            refine dk_aload_n (pc' := 147) hE dX11_readPart_146 rfl rfl rfl ?_
            refine gf_11_23 (pc' := 150) (w := 156) hE fl_X11_57 dX11_readPart_147 is_141 rfl rfl ?_
            refine dk_iconst (pc' := 151) hE dX11_readPart_150 (by decide) rfl ?_
            refine dk_aload_n (pc' := 152) hE dX11_readPart_151 rfl rfl rfl ?_
            refine gf_11_28 (pc' := 155) hE fl_X11_269 dX11_readPart_152 is_141 rfl (fun v387 hv387 htv387 hbv387 => ?_)
            have hq387 : r = v387 := (show v387 = r by rw [hv387, eσ386, dk_up_n (show ¬ (141 = 146 ∧ 28 = r) by omega), hv383]).symm
            subst hq387
            clear htv387 hbv387
            obtain ⟨v388, hv388⟩ : ∃ z : Int, z = 4 * r := ⟨_, rfl⟩
            refine dk_imul (pc' := 156) hE dX11_readPart_155 hv388.symm (by omega) rfl ?_
            refine dk_aload_n (pc' := 157) hE dX11_readPart_156 rfl rfl rfl ?_
            refine gf_11_12 (pc' := 160) (w := 145) hE fl_X11_24 dX11_readPart_157 is_141 rfl rfl ?_
            refine dk_aload_n (pc' := 161) hE dX11_readPart_160 rfl rfl rfl ?_
            refine gf_11_28 (pc' := 164) hE fl_X11_269 dX11_readPart_161 is_141 rfl (fun v389 hv389 htv389 hbv389 => ?_)
            have hq389 : r = v389 := (show v389 = r by rw [hv389, hv387]).symm
            subst hq389
            clear htv389 hbv389
            refine ga_73 (pc' := 165) hE dX11_readPart_164 is_145 (by omega) rfl (fun v390 hv390 htv390 hbv390 => ?_)
            have hq390 : w = v390 := (show v390 = w by rw [hv390, eσ386, dk_up_n (show ¬ (145 = 146 ∧ r = r) by omega), hF109 145 r (by omega), eσ231, dk_up_n (show ¬ (145 = 151 ∧ r = v5) by omega), hv229]).symm
            subst hq390
            clear htv390 hbv390
            obtain ⟨v391, hv391⟩ : ∃ z : Int, z = v388 + w := ⟨_, rfl⟩
            refine dk_iadd (pc' := 166) hE dX11_readPart_165 hv391.symm (by omega) rfl ?_
            refine dk_iconst (pc' := 167) hE dX11_readPart_166 (by decide) rfl ?_
            obtain ⟨v392, hv392⟩ : ∃ z : Int, z = v391 - 1 := ⟨_, rfl⟩
            refine dk_isub (pc' := 168) hE dX11_readPart_167 hv392.symm (by omega) rfl ?_
            refine dk_dup2 (pc' := 169) hE dX11_readPart_168 (show (0 : Nat) ≠ 3 by decide) (show (4 : Nat) ≠ 3 by decide) rfl ?_
            refine ga_84 (pc' := 170) hE dX11_readPart_169 is_156 (by omega) rfl (fun v393 hv393 htv393 hbv393 => ?_)
            have h8i := h8 v392 (by omega)
            have h8j : v393 = σ 156 v392 := by rw [hv393, eσ386, dk_up_n (show ¬ (156 = 146 ∧ v392 = r) by omega), hF109 156 v392 (by omega), eσ231, dk_up_n (show ¬ (156 = 151 ∧ v392 = v5) by omega), eσ227, dk_up_n (show ¬ (156 = 157 ∧ v392 = v5) by omega), eσ226, dk_up_n (show ¬ (156 = 154 ∧ v392 = v5) by omega), eσ225, dk_up_n (show ¬ (156 = 153 ∧ v392 = v5) by omega), hfσ221 156 v392 (by omega), eσ218, dk_up_n (show ¬ (156 = 152 ∧ v392 = v5) by omega), hfσ214 156 v392 (by omega), hfσ210 156 v392 (by omega), hfσ8 156 v392 (by omega)]
            refine dk_iconst (pc' := 171) hE dX11_readPart_170 (by decide) rfl ?_
            obtain ⟨v394, hv394⟩ : ∃ z : Int, z = v393 + 1 := ⟨_, rfl⟩
            refine dk_iadd (pc' := 172) hE dX11_readPart_171 hv394.symm (by omega) rfl ?_
            refine pa_84 (pc' := 173) hE dX11_readPart_172 is_156 (by omega) trivial rfl (fun σ395 eσ395 => ?_)
            have hz396 : σ109c 146 r = σ 146 r := by rw [hF109 146 r (by omega), eσ231, dk_up_n (show ¬ (146 = 151 ∧ r = v5) by omega), eσ227, dk_up_n (show ¬ (146 = 157 ∧ r = v5) by omega), eσ226, dk_up_n (show ¬ (146 = 154 ∧ r = v5) by omega), eσ225, dk_up_n (show ¬ (146 = 153 ∧ r = v5) by omega), hfσ221 146 r (by omega), eσ218, dk_up_n (show ¬ (146 = 152 ∧ r = v5) by omega), hfσ214 146 r (by omega), hfσ210 146 r (by omega), hfσ8 146 r (by omega)]
            have hz397 : σ109c 151 v5 = v230 := by rw [hF109 151 v5 (by omega), eσ231, dk_up_s]
            have hz398 : σ109c 156 v392 = σ 156 v392 := by rw [hF109 156 v392 (by omega), eσ231, dk_up_n (show ¬ (156 = 151 ∧ v392 = v5) by omega), eσ227, dk_up_n (show ¬ (156 = 157 ∧ v392 = v5) by omega), eσ226, dk_up_n (show ¬ (156 = 154 ∧ v392 = v5) by omega), eσ225, dk_up_n (show ¬ (156 = 153 ∧ v392 = v5) by omega), hfσ221 156 v392 (by omega), eσ218, dk_up_n (show ¬ (156 = 152 ∧ v392 = v5) by omega), hfσ214 156 v392 (by omega), hfσ210 156 v392 (by omega), hfσ8 156 v392 (by omega)]
            have gi399 : RX r σ σ395 := ⟨NX_fr (hG109).1 (fun k_ j_ h_ => by rw [eσ395, dk_up_n (by omega), eσ386, dk_up_n (by omega)]), TI_part (q := q) (w := w - 1) (p := v5) (hG109).2 (by omega) (by omega) (by omega) (by omega) (by omega) (by omega) hv393 (by omega) (by omega) (by omega) eσ386 eσ395⟩
            have hz400 : σ395 147 r = n + 1 := by rw [eσ395, dk_up_n (show ¬ (147 = 156 ∧ r = v392) by omega), eσ386, dk_up_n (show ¬ (147 = 146 ∧ r = r) by omega), hF109 147 r (by omega), eσ231, dk_up_n (show ¬ (147 = 151 ∧ r = v5) by omega), eσ227, dk_up_n (show ¬ (147 = 157 ∧ r = v5) by omega), eσ226, dk_up_n (show ¬ (147 = 154 ∧ r = v5) by omega), eσ225, dk_up_n (show ¬ (147 = 153 ∧ r = v5) by omega), hfσ221 147 r (by omega), eσ218, dk_up_n (show ¬ (147 = 152 ∧ r = v5) by omega), hfσ214 147 r (by omega), hfσ210 147 r (by omega), (hpr9.2).symm]
            have hz401 : σ395 146 r = v385 := by rw [eσ395, dk_up_n (show ¬ (146 = 156 ∧ r = v392) by omega), eσ386, dk_up_s]
            exact dk_vret (st := []) hE hR dX11_readPart_173 ⟨rfl, (fun k_ j_ h_ => by rw [eσ395, dk_up_n (show ¬ (k_ = 156 ∧ j_ = v392) from fun q_ => h_ (Or.inr (Or.inr (Or.inr (Or.inr (Or.inr (Or.inr (Or.inr (Or.inr (Or.inl (dk_wr (lo := 151) (hi := 157) q_.1 (by decide)))))))))))), eσ386, dk_up_n (show ¬ (k_ = 146 ∧ j_ = r) from fun q_ => h_ (Or.inr (Or.inr (Or.inr (Or.inr (Or.inr (Or.inr (Or.inr (Or.inl (dk_wr (lo := 146) (hi := 147) q_.1 (by decide))))))))))), hF109 k_ j_ (fun w_ => h_ (w_.elim (fun x0_ => Or.inl (x0_)) (fun y0_ => y0_.elim (fun x1_ => Or.inr (Or.inl (x1_))) (fun y1_ => y1_.elim (fun x2_ => Or.inr (Or.inr (Or.inl (x2_)))) (fun y2_ => y2_.elim (fun x3_ => Or.inr (Or.inr (Or.inr (Or.inl (x3_))))) (fun y3_ => y3_.elim (fun x4_ => Or.inr (Or.inr (Or.inr (Or.inr (Or.inl (x4_)))))) (fun y4_ => y4_.elim (fun x5_ => Or.inr (Or.inr (Or.inr (Or.inr (Or.inr (Or.inl (x5_))))))) (fun y5_ => y5_.elim (fun x6_ => Or.inr (Or.inr (Or.inr (Or.inr (Or.inr (Or.inr (Or.inl (x6_)))))))) (fun y6_ => Or.inr (Or.inr (Or.inr (Or.inr (Or.inr (Or.inr (Or.inr (Or.inr (Or.inl (dk_wrr (lo := 151) (hi := 157) y6_ (by decide) (by decide))))))))))))))))))), eσ231, dk_up_n (show ¬ (k_ = 151 ∧ j_ = v5) from fun q_ => h_ (Or.inr (Or.inr (Or.inr (Or.inr (Or.inr (Or.inr (Or.inr (Or.inr (Or.inl (dk_wr (lo := 151) (hi := 157) q_.1 (by decide)))))))))))), eσ227, dk_up_n (show ¬ (k_ = 157 ∧ j_ = v5) from fun q_ => h_ (Or.inr (Or.inr (Or.inr (Or.inr (Or.inr (Or.inr (Or.inr (Or.inr (Or.inl (dk_wr (lo := 151) (hi := 157) q_.1 (by decide)))))))))))), eσ226, dk_up_n (show ¬ (k_ = 154 ∧ j_ = v5) from fun q_ => h_ (Or.inr (Or.inr (Or.inr (Or.inr (Or.inr (Or.inr (Or.inr (Or.inr (Or.inl (dk_wr (lo := 151) (hi := 157) q_.1 (by decide)))))))))))), eσ225, dk_up_n (show ¬ (k_ = 153 ∧ j_ = v5) from fun q_ => h_ (Or.inr (Or.inr (Or.inr (Or.inr (Or.inr (Or.inr (Or.inr (Or.inr (Or.inl (dk_wr (lo := 151) (hi := 157) q_.1 (by decide)))))))))))), hfσ221 k_ j_ (fun w_ => h_ (w_.elim (fun x0_ => Or.inl (x0_)) (fun y0_ => y0_.elim (fun x1_ => Or.inr (Or.inl (x1_))) (fun y1_ => y1_.elim (fun x2_ => Or.inr (Or.inr (Or.inl (x2_)))) (fun y2_ => y2_.elim (fun x3_ => Or.inr (Or.inr (Or.inr (Or.inl (x3_))))) (fun y3_ => y3_.elim (fun x4_ => Or.inr (Or.inr (Or.inr (Or.inr (Or.inl (x4_)))))) (fun y4_ => y4_.elim (fun x5_ => Or.inr (Or.inr (Or.inr (Or.inr (Or.inr (Or.inl (x5_))))))) (fun y5_ => Or.inr (Or.inr (Or.inr (Or.inr (Or.inr (Or.inr (Or.inl (y5_))))))))))))))), eσ218, dk_up_n (show ¬ (k_ = 152 ∧ j_ = v5) from fun q_ => h_ (Or.inr (Or.inr (Or.inr (Or.inr (Or.inr (Or.inr (Or.inr (Or.inr (Or.inl (dk_wr (lo := 151) (hi := 157) q_.1 (by decide)))))))))))), hfσ214 k_ j_ (fun w_ => h_ (w_.elim (fun x0_ => Or.inl (x0_)) (fun y0_ => y0_.elim (fun x1_ => Or.inr (Or.inl (x1_))) (fun y1_ => y1_.elim (fun x2_ => Or.inr (Or.inr (Or.inl (x2_)))) (fun y2_ => y2_.elim (fun x3_ => Or.inr (Or.inr (Or.inr (Or.inl (x3_))))) (fun y3_ => y3_.elim (fun x4_ => Or.inr (Or.inr (Or.inr (Or.inr (Or.inl (x4_)))))) (fun y4_ => y4_.elim (fun x5_ => Or.inr (Or.inr (Or.inr (Or.inr (Or.inr (Or.inl (x5_))))))) (fun y5_ => Or.inr (Or.inr (Or.inr (Or.inr (Or.inr (Or.inr (Or.inl (y5_))))))))))))))), hfσ210 k_ j_ (fun w_ => h_ (w_.elim (fun x0_ => Or.inl (x0_)) (fun y0_ => y0_.elim (fun x1_ => Or.inr (Or.inl (x1_))) (fun y1_ => y1_.elim (fun x2_ => Or.inr (Or.inr (Or.inl (x2_)))) (fun y2_ => y2_.elim (fun x3_ => Or.inr (Or.inr (Or.inr (Or.inl (x3_))))) (fun y3_ => y3_.elim (fun x4_ => Or.inr (Or.inr (Or.inr (Or.inr (Or.inl (x4_)))))) (fun y4_ => y4_.elim (fun x5_ => Or.inr (Or.inr (Or.inr (Or.inr (Or.inr (Or.inl (x5_))))))) (fun y5_ => Or.inr (Or.inr (Or.inr (Or.inr (Or.inr (Or.inr (Or.inl (y5_))))))))))))))), hfσ8 k_ j_ (fun w_ => h_ (w_.elim (fun x0_ => Or.inl (x0_)) (fun y0_ => y0_.elim (fun x1_ => Or.inr (Or.inl (x1_))) (fun y1_ => y1_.elim (fun x2_ => Or.inr (Or.inr (Or.inl (x2_)))) (fun y2_ => y2_.elim (fun x3_ => Or.inr (Or.inr (Or.inr (Or.inl (x3_))))) (fun y3_ => y3_.elim (fun x4_ => Or.inr (Or.inr (Or.inr (Or.inr (Or.inl (x4_)))))) (fun y4_ => y4_.elim (fun x5_ => Or.inr (Or.inr (Or.inr (Or.inr (Or.inr (Or.inl (x5_))))))) (fun y5_ => y5_.elim (fun x6_ => Or.inr (Or.inr (Or.inr (Or.inr (Or.inr (Or.inr (Or.inl (x6_)))))))) (fun y6_ => y6_.elim (fun x7_ => Or.inr (Or.inr (Or.inr (Or.inr (Or.inr (Or.inr (Or.inr (Or.inl (dk_wr (lo := 146) (hi := 147) x7_ (by decide)))))))))) (fun y7_ => Or.inr (Or.inr (Or.inr (Or.inr (Or.inr (Or.inr (Or.inr (Or.inr (Or.inr (y7_)))))))))))))))))))]), ⟨gi399, by omega, by omega⟩⟩
      exact lp109 _ σ231 (Nat.lt_succ_self _) (fun k_ j_ h_ => rfl) gi234
