theorem fpn15_8 {k j : Int} (h : k = 8) : ¬ sFP k j := by subst h; omega
theorem fpw15_2838667018 : ∀ k_ j_ : Int, sFP k_ j_ → ¬ ((k_ = 8 ∧ j_ = 5) ∨ (k_ = 8 ∧ j_ = 6)) := by intro k_ j_ h; omega
theorem fpw15_3205328614 : ∀ k_ j_ : Int, sFP k_ j_ → ¬ (k_ = 6) := by intro k_ j_ h; omega
theorem fpw15_3236895349 : ∀ k_ j_ : Int, sFP k_ j_ → ¬ (k_ = 6 ∨ (k_ = 8 ∧ j_ = 2) ∨ (k_ = 8 ∧ j_ = 5) ∨ (k_ = 8 ∧ j_ = 6) ∨ k_ = 9) := by intro k_ j_ h; omega
theorem fpw15_1614500924 : ∀ k_ j_ : Int, sFP k_ j_ → ¬ (k_ = 6 ∨ (k_ = 8 ∧ j_ = 5) ∨ (k_ = 8 ∧ j_ = 6)) := by intro k_ j_ h; omega
set_option maxHeartbeats 4000000 in
set_option maxRecDepth 20000 in
theorem ct_X5_refuse (l : Launch) (G : dkG) (hGd : dk_Gd G) (a : Int) : dk_Ct l G dk_Ty yX5_refuse cX5_refuse 2 (some .boolean) 1 190 190 (fun av σ => av = [(4, 8), (0, a)]) (fun _ σ r_ σ' => ∃ z : Int, r_ = some (0, z) ∧ (∀ k_ j_ : Int, ¬ ((k_ = 8 ∧ j_ = 5) ∨ (k_ = 8 ∧ j_ = 6)) → σ' k_ j_ = σ k_ j_) ∧ (z = 0)) := by
  refine dk_enter hGd (by decide) (fun av σ hpre hok => ?_)
  subst hpre
  refine ⟨Nat.le_of_ble_eq_true rfl, fun E hE hR _ => ?_⟩
  have hi_a : dk_i32 a := dk_oki (hok _ (by simp))
  show dk_PJ E 0 [(4, 8), (0, a)] [] 190 σ
  refine dk_aload_n (pc' := 1) hE dX5_refuse_0 rfl rfl rfl ?_
  refine dk_aload_n (pc' := 2) hE dX5_refuse_1 rfl rfl rfl ?_
  refine gf_5_0 (pc' := 5) (w := 6) hE fl_X5_17 dX5_refuse_2 is_8 rfl rfl ?_
  refine gf_9_3 (pc' := 8) hE fl_X5_49 dX5_refuse_5 is_6 rfl (fun v1 hv1 htv1 hbv1 => ?_)
  refine dk_iconst (pc' := 9) hE dX5_refuse_8 (by decide) rfl ?_
  refine dk_icmp_ne (tgt := 16) (pc' := 12) hE dX5_refuse_9 (by decide) rfl (fun hc2 => ?_) (fun hc2 => ?_)
  · skip
    refine dk_iload_n (pc' := 17) hE dX5_refuse_16 rfl rfl rfl ?_
    refine pf_5_5 (pc' := 20) hE fl_X5_36 dX5_refuse_17 is_8 trivial rfl (fun σ3 eσ3 => ?_)
    refine dk_aload_n (pc' := 21) hE dX5_refuse_20 rfl rfl rfl ?_
    refine dk_aload_n (pc' := 22) hE dX5_refuse_21 rfl rfl rfl ?_
    refine gf_5_0 (pc' := 25) (w := 6) hE fl_X5_17 dX5_refuse_22 is_8 rfl rfl ?_
    refine gf_9_4 (pc' := 28) hE fl_X5_161 dX5_refuse_25 is_6 rfl (fun v4 hv4 htv4 hbv4 => ?_)
    refine pf_5_6 (pc' := 31) hE fl_X5_39 dX5_refuse_28 is_8 trivial rfl (fun σ5 eσ5 => ?_)
    refine dk_iconst (pc' := 32) hE dX5_refuse_31 (by decide) rfl ?_
    exact dk_zret (st := []) hE hR dX5_refuse_32 (by omega) ⟨_, rfl, (fun k_ j_ h_ => by rw [eσ5, dk_up_n (show ¬ (k_ = 8 ∧ j_ = 6) from fun q_ => h_ (Or.inr (q_))), eσ3, dk_up_n (show ¬ (k_ = 8 ∧ j_ = 5) from fun q_ => h_ (Or.inl (q_)))]), by omega⟩
  · skip
    refine dk_iconst (pc' := 13) hE dX5_refuse_12 (by decide) rfl ?_
    refine dk_goto (tgt := 17) hE dX5_refuse_13 (by decide) ?_
    refine pf_5_5 (pc' := 20) hE fl_X5_36 dX5_refuse_17 is_8 trivial rfl (fun σ6 eσ6 => ?_)
    refine dk_aload_n (pc' := 21) hE dX5_refuse_20 rfl rfl rfl ?_
    refine dk_aload_n (pc' := 22) hE dX5_refuse_21 rfl rfl rfl ?_
    refine gf_5_0 (pc' := 25) (w := 6) hE fl_X5_17 dX5_refuse_22 is_8 rfl rfl ?_
    refine gf_9_4 (pc' := 28) hE fl_X5_161 dX5_refuse_25 is_6 rfl (fun v7 hv7 htv7 hbv7 => ?_)
    refine pf_5_6 (pc' := 31) hE fl_X5_39 dX5_refuse_28 is_8 trivial rfl (fun σ8 eσ8 => ?_)
    refine dk_iconst (pc' := 32) hE dX5_refuse_31 (by decide) rfl ?_
    exact dk_zret (st := []) hE hR dX5_refuse_32 (by omega) ⟨_, rfl, (fun k_ j_ h_ => by rw [eσ8, dk_up_n (show ¬ (k_ = 8 ∧ j_ = 6) from fun q_ => h_ (Or.inr (q_))), eσ6, dk_up_n (show ¬ (k_ = 8 ∧ j_ = 5) from fun q_ => h_ (Or.inl (q_)))]), by omega⟩
set_option maxHeartbeats 4000000 in
set_option maxRecDepth 20000 in
theorem ct_X5_takeNumber (l : Launch) (G : dkG) (hGd : dk_Gd G) : dk_Ct l G dk_Ty yX5_takeNumber cX5_takeNumber 2 (some .int) 6 190 190 (fun av σ => av = [(4, 8)]) (fun _ σ r_ σ' => ∃ z : Int, r_ = some (0, z) ∧ (∀ k_ j_ : Int, ¬ (k_ = 6) → σ' k_ j_ = σ k_ j_) ∧ (z = σ 6 6 ∧ 0 ≤ z ∧ z ≤ 9999)) := by
  refine dk_enter hGd (by decide) (fun av σ hpre hok => ?_)
  subst hpre
  refine ⟨Nat.le_of_ble_eq_true rfl, fun E hE hR _ => ?_⟩
  show dk_PJ E 0 [(4, 8), (9, 0)] [] 190 σ
  refine dk_aload_n (pc' := 1) hE dX5_takeNumber_0 rfl rfl rfl ?_
  refine gf_5_0 (pc' := 4) (w := 6) hE fl_X5_17 dX5_takeNumber_1 is_8 rfl rfl ?_
  refine gf_9_6 (pc' := 7) hE fl_X5_158 dX5_takeNumber_4 is_6 rfl (fun v1 hv1 htv1 hbv1 => ?_)
  refine dk_istore_n (pc' := 8) (ls' := [(4, 8), (0, v1)]) hE dX5_takeNumber_7 rfl rfl (by decide) rfl ?_
  refine dk_aload_n (pc' := 9) hE dX5_takeNumber_8 rfl rfl rfl ?_
  refine gf_5_0 (pc' := 12) (w := 6) hE fl_X5_17 dX5_takeNumber_9 is_8 rfl rfl ?_
  refine dk_cV (pc' := 15) (as := []) hE lk_X5_73 (ct_X9_advance l G hGd) dX5_takeNumber_12 rfl is_6 rfl (by decide) (Nat.le_of_ble_eq_true rfl) rfl rfl (fun r3 σ2 hr3 _ => ?_)
  obtain ⟨rfl, hfσ2, hpr3⟩ := hr3
  refine dk_iload_n (pc' := 16) hE dX5_takeNumber_15 rfl rfl rfl ?_
  exact dk_iret (st := []) hE hR dX5_takeNumber_16 ⟨_, rfl, (fun k_ j_ h_ => by rw [hfσ2 k_ j_ (fun w_ => h_ (w_))]), by omega⟩
set_option maxHeartbeats 4000000 in
set_option maxRecDepth 20000 in
theorem ct_X5_take (l : Launch) (G : dkG) (hGd : dk_Gd G) (a : Int) : dk_Ct l G dk_Ty yX5_take cX5_take 2 (some .boolean) 6 190 190 (fun av σ => av = [(4, 8), (0, a)]) (fun _ σ r_ σ' => ∃ z : Int, r_ = some (0, z) ∧ (∀ k_ j_ : Int, ¬ (k_ = 6 ∨ (k_ = 8 ∧ j_ = 5) ∨ (k_ = 8 ∧ j_ = 6)) → σ' k_ j_ = σ k_ j_) ∧ (0 ≤ z ∧ z ≤ 1)) := by
  refine dk_enter hGd (by decide) (fun av σ hpre hok => ?_)
  subst hpre
  refine ⟨Nat.le_of_ble_eq_true rfl, fun E hE hR _ => ?_⟩
  have hi_a : dk_i32 a := dk_oki (hok _ (by simp))
  show dk_PJ E 0 [(4, 8), (0, a)] [] 190 σ
  refine dk_aload_n (pc' := 1) hE dX5_take_0 rfl rfl rfl ?_
  refine gf_5_0 (pc' := 4) (w := 6) hE fl_X5_17 dX5_take_1 is_8 rfl rfl ?_
  refine gf_9_3 (pc' := 7) hE fl_X5_49 dX5_take_4 is_6 rfl (fun v1 hv1 htv1 hbv1 => ?_)
  refine dk_iload_n (pc' := 8) hE dX5_take_7 rfl rfl rfl ?_
  refine dk_icmp_eq (tgt := 17) (pc' := 11) hE dX5_take_8 (by decide) rfl (fun hc2 => ?_) (fun hc2 => ?_)
  · skip
    refine dk_aload_n (pc' := 18) hE dX5_take_17 rfl rfl rfl ?_
    refine gf_5_0 (pc' := 21) (w := 6) hE fl_X5_17 dX5_take_18 is_8 rfl rfl ?_
    refine dk_cV (pc' := 24) (as := []) hE lk_X5_73 (ct_X9_advance l G hGd) dX5_take_21 rfl is_6 rfl (by decide) (Nat.le_of_ble_eq_true rfl) rfl rfl (fun r4 σ3 hr4 _ => ?_)
    obtain ⟨rfl, hfσ3, hpr4⟩ := hr4
    refine dk_iconst (pc' := 25) hE dX5_take_24 (by decide) rfl ?_
    exact dk_zret (st := []) hE hR dX5_take_25 (by omega) ⟨_, rfl, (fun k_ j_ h_ => by rw [hfσ3 k_ j_ (fun w_ => h_ (Or.inl (w_)))]), by omega⟩
  · skip
    refine dk_aload_n (pc' := 12) hE dX5_take_11 rfl rfl rfl ?_
    refine dk_iconst (pc' := 13) hE dX5_take_12 (by decide) rfl ?_
    refine dk_cV (pc' := 16) (as := [(0, 2)]) hE lk_X5_69 (ct_X5_refuse l G hGd 2) dX5_take_13 rfl is_8 rfl (by decide) (Nat.le_of_ble_eq_true rfl) rfl rfl (fun r6 σ5 hr6 _ => ?_)
    obtain ⟨v7, rfl, hfσ5, hpr6⟩ := hr6
    exact dk_zret (st := []) hE hR dX5_take_16 (by omega) ⟨_, rfl, (fun k_ j_ h_ => by rw [hfσ5 k_ j_ (fun w_ => h_ (w_.elim (fun x0_ => Or.inr (Or.inl (x0_))) (fun y0_ => Or.inr (Or.inr (y0_)))))]), by omega⟩
set_option maxHeartbeats 4000000 in
set_option maxRecDepth 20000 in
theorem ct_X5_isNumber (l : Launch) (G : dkG) (hGd : dk_Gd G) (a b : Int) : dk_Ct l G dk_Ty yX5_isNumber cX5_isNumber 3 (some .boolean) 2 190 190 (fun av σ => av = [(4, 8), (0, a), (0, b)]) (fun _ σ r_ σ' => ∃ z : Int, r_ = some (0, z) ∧ (∀ k_ j_ : Int, ¬ ((k_ = 8 ∧ j_ = 5) ∨ (k_ = 8 ∧ j_ = 6)) → σ' k_ j_ = σ k_ j_) ∧ ((z = 1 ∧ a ≤ σ' 6 6 ∧ σ' 6 6 ≤ b) ∨ z = 0)) := by
  refine dk_enter hGd (by decide) (fun av σ hpre hok => ?_)
  subst hpre
  refine ⟨Nat.le_of_ble_eq_true rfl, fun E hE hR _ => ?_⟩
  have hi_a : dk_i32 a := dk_oki (hok _ (by simp))
  have hi_b : dk_i32 b := dk_oki (hok _ (by simp))
  show dk_PJ E 0 [(4, 8), (0, a), (0, b)] [] 190 σ
  refine dk_aload_n (pc' := 1) hE dX5_isNumber_0 rfl rfl rfl ?_
  refine gf_5_0 (pc' := 4) (w := 6) hE fl_X5_17 dX5_isNumber_1 is_8 rfl rfl ?_
  refine gf_9_3 (pc' := 7) hE fl_X5_49 dX5_isNumber_4 is_6 rfl (fun v1 hv1 htv1 hbv1 => ?_)
  refine dk_iconst (pc' := 8) hE dX5_isNumber_7 (by decide) rfl ?_
  refine dk_icmp_eq (tgt := 17) (pc' := 11) hE dX5_isNumber_8 (by decide) rfl (fun hc2 => ?_) (fun hc2 => ?_)
  · skip
    refine dk_aload_n (pc' := 18) hE dX5_isNumber_17 rfl rfl rfl ?_
    refine gf_5_0 (pc' := 21) (w := 6) hE fl_X5_17 dX5_isNumber_18 is_8 rfl rfl ?_
    refine gf_9_6 (pc' := 24) hE fl_X5_158 dX5_isNumber_21 is_6 rfl (fun v3 hv3 htv3 hbv3 => ?_)
    refine dk_iload_n (pc' := 25) hE dX5_isNumber_24 rfl rfl rfl ?_
    refine dk_icmp_lt (tgt := 39) (pc' := 28) hE dX5_isNumber_25 (by decide) rfl (fun hc4 => ?_) (fun hc4 => ?_)
    · skip
      refine dk_aload_n (pc' := 40) hE dX5_isNumber_39 rfl rfl rfl ?_
      refine dk_iconst (pc' := 41) hE dX5_isNumber_40 (by decide) rfl ?_
      refine dk_cV (pc' := 44) (as := [(0, 4)]) hE lk_X5_69 (ct_X5_refuse l G hGd 4) dX5_isNumber_41 rfl is_8 rfl (by decide) (Nat.le_of_ble_eq_true rfl) rfl rfl (fun r6 σ5 hr6 _ => ?_)
      obtain ⟨v7, rfl, hfσ5, hpr6⟩ := hr6
      have hz8 : σ5 6 6 = σ 6 6 := by rw [hfσ5 6 6 (by omega)]
      have hz9 : σ5 6 6 = σ 6 6 := by rw [hfσ5 6 6 (by omega)]
      exact dk_zret (st := []) hE hR dX5_isNumber_44 (by omega) ⟨_, rfl, (fun k_ j_ h_ => by rw [hfσ5 k_ j_ (fun w_ => h_ (w_.elim (fun x0_ => Or.inl (x0_)) (fun y0_ => Or.inr (y0_))))]), by omega⟩
    · skip
      refine dk_aload_n (pc' := 29) hE dX5_isNumber_28 rfl rfl rfl ?_
      refine gf_5_0 (pc' := 32) (w := 6) hE fl_X5_17 dX5_isNumber_29 is_8 rfl rfl ?_
      refine gf_9_6 (pc' := 35) hE fl_X5_158 dX5_isNumber_32 is_6 rfl (fun v10 hv10 htv10 hbv10 => ?_)
      have hq10 : v3 = v10 := (show v10 = v3 by rw [hv10, hv3]).symm
      subst hq10
      clear htv10 hbv10
      refine dk_iload_n (pc' := 36) hE dX5_isNumber_35 rfl rfl rfl ?_
      refine dk_icmp_le (tgt := 45) (pc' := 39) hE dX5_isNumber_36 (by decide) rfl (fun hc11 => ?_) (fun hc11 => ?_)
      · skip
        refine dk_iconst (pc' := 46) hE dX5_isNumber_45 (by decide) rfl ?_
        exact dk_zret (st := []) hE hR dX5_isNumber_46 (by omega) ⟨_, rfl, (fun k_ j_ h_ => rfl), by omega⟩
      · skip
        refine dk_aload_n (pc' := 40) hE dX5_isNumber_39 rfl rfl rfl ?_
        refine dk_iconst (pc' := 41) hE dX5_isNumber_40 (by decide) rfl ?_
        refine dk_cV (pc' := 44) (as := [(0, 4)]) hE lk_X5_69 (ct_X5_refuse l G hGd 4) dX5_isNumber_41 rfl is_8 rfl (by decide) (Nat.le_of_ble_eq_true rfl) rfl rfl (fun r13 σ12 hr13 _ => ?_)
        obtain ⟨v14, rfl, hfσ12, hpr13⟩ := hr13
        have hz15 : σ12 6 6 = σ 6 6 := by rw [hfσ12 6 6 (by omega)]
        have hz16 : σ12 6 6 = σ 6 6 := by rw [hfσ12 6 6 (by omega)]
        exact dk_zret (st := []) hE hR dX5_isNumber_44 (by omega) ⟨_, rfl, (fun k_ j_ h_ => by rw [hfσ12 k_ j_ (fun w_ => h_ (w_.elim (fun x0_ => Or.inl (x0_)) (fun y0_ => Or.inr (y0_))))]), by omega⟩
  · skip
    refine dk_aload_n (pc' := 12) hE dX5_isNumber_11 rfl rfl rfl ?_
    refine dk_iconst (pc' := 13) hE dX5_isNumber_12 (by decide) rfl ?_
    refine dk_cV (pc' := 16) (as := [(0, 2)]) hE lk_X5_69 (ct_X5_refuse l G hGd 2) dX5_isNumber_13 rfl is_8 rfl (by decide) (Nat.le_of_ble_eq_true rfl) rfl rfl (fun r18 σ17 hr18 _ => ?_)
    obtain ⟨v19, rfl, hfσ17, hpr18⟩ := hr18
    have hz20 : σ17 6 6 = σ 6 6 := by rw [hfσ17 6 6 (by omega)]
    have hz21 : σ17 6 6 = σ 6 6 := by rw [hfσ17 6 6 (by omega)]
    exact dk_zret (st := []) hE hR dX5_isNumber_16 (by omega) ⟨_, rfl, (fun k_ j_ h_ => by rw [hfσ17 k_ j_ (fun w_ => h_ (w_.elim (fun x0_ => Or.inl (x0_)) (fun y0_ => Or.inr (y0_))))]), by omega⟩
set_option maxHeartbeats 4000000 in
set_option maxRecDepth 20000 in
theorem ct_X5_takeName (l : Launch) (G : dkG) (hGd : dk_Gd G) : dk_Ct l G dk_Ty yX5_takeName cX5_takeName 2 (some .boolean) 6 190 190 (fun av σ => av = [(4, 8)]) (fun _ σ r_ σ' => ∃ z : Int, r_ = some (0, z) ∧ (∀ k_ j_ : Int, ¬ (k_ = 6 ∨ (k_ = 8 ∧ j_ = 2) ∨ (k_ = 8 ∧ j_ = 5) ∨ (k_ = 8 ∧ j_ = 6) ∨ k_ = 9) → σ' k_ j_ = σ k_ j_) ∧ (0 ≤ z ∧ z ≤ 1)) := by
  refine dk_enter hGd (by decide) (fun av σ hpre hok => ?_)
  subst hpre
  refine ⟨Nat.le_of_ble_eq_true rfl, fun E hE hR _ => ?_⟩
  show dk_PJ E 0 [(4, 8), (9, 0)] [] 190 σ
  refine dk_aload_n (pc' := 1) hE dX5_takeName_0 rfl rfl rfl ?_
  refine gf_5_0 (pc' := 4) (w := 6) hE fl_X5_17 dX5_takeName_1 is_8 rfl rfl ?_
  refine gf_9_3 (pc' := 7) hE fl_X5_49 dX5_takeName_4 is_6 rfl (fun v1 hv1 htv1 hbv1 => ?_)
  refine dk_iconst (pc' := 8) hE dX5_takeName_7 (by decide) rfl ?_
  refine dk_icmp_ne (tgt := 23) (pc' := 11) hE dX5_takeName_8 (by decide) rfl (fun hc2 => ?_) (fun hc2 => ?_)
  · skip
    refine dk_aload_n (pc' := 24) hE dX5_takeName_23 rfl rfl rfl ?_
    refine dk_iconst (pc' := 25) hE dX5_takeName_24 (by decide) rfl ?_
    refine dk_cV (pc' := 28) (as := [(0, 2)]) hE lk_X5_69 (ct_X5_refuse l G hGd 2) dX5_takeName_25 rfl is_8 rfl (by decide) (Nat.le_of_ble_eq_true rfl) rfl rfl (fun r4 σ3 hr4 _ => ?_)
    obtain ⟨v5, rfl, hfσ3, hpr4⟩ := hr4
    exact dk_zret (st := []) hE hR dX5_takeName_28 (by omega) ⟨_, rfl, (fun k_ j_ h_ => by rw [hfσ3 k_ j_ (fun w_ => h_ (w_.elim (fun x0_ => Or.inr (Or.inr (Or.inl (x0_)))) (fun y0_ => Or.inr (Or.inr (Or.inr (Or.inl (y0_)))))))]), by omega⟩
  · skip
    refine dk_aload_n (pc' := 12) hE dX5_takeName_11 rfl rfl rfl ?_
    refine gf_5_2 (pc' := 15) hE fl_X5_28 dX5_takeName_12 is_8 rfl (fun v6 hv6 htv6 hbv6 => ?_)
    refine dk_aload_n (pc' := 16) hE dX5_takeName_15 rfl rfl rfl ?_
    refine gf_5_1 (pc' := 19) (w := 9) hE fl_X5_11 dX5_takeName_16 is_8 rfl rfl ?_
    refine dk_alen (pc' := 20) hE dX5_takeName_19 is_9 rfl (w := 16) rfl (by decide) rfl ?_
    refine dk_icmp_lt (tgt := 29) (pc' := 23) hE dX5_takeName_20 (by decide) rfl (fun hc7 => ?_) (fun hc7 => ?_)
    · skip
      refine dk_iconst (pc' := 30) hE dX5_takeName_29 (by decide) rfl ?_
      refine dk_istore_n (pc' := 31) (ls' := [(4, 8), (0, 0)]) hE dX5_takeName_30 rfl rfl (by decide) rfl ?_
      have lp31 : ∀ (N_ : Nat) (i : Int) (σ31c : dkS), (2147483648 - i).toNat < N_ → ((∀ k_ j_ : Int, ¬ (False) → σ31c k_ j_ = σ k_ j_)) → (0 ≤ i) → dk_PJ E 31 [(4, 8), (0, i)] [] 190 σ31c := by
        intro N31
        induction N31 with
        | zero => intro i σ31c hm; exact absurd hm (Nat.not_lt_zero _)
        | succ N31 ih31 =>
          intro i σ31c hm31 hF31 hi
          refine dk_iload_n (pc' := 32) hE dX5_takeName_31 rfl rfl rfl ?_
          refine dk_aload_n (pc' := 33) hE dX5_takeName_32 rfl rfl rfl ?_
          refine gf_5_2 (pc' := 36) hE fl_X5_28 dX5_takeName_33 is_8 rfl (fun v8 hv8 htv8 hbv8 => ?_)
          have hq8 : v6 = v8 := (show v8 = v6 by rw [hv8, hF31 8 2 not_false, hv6]).symm
          subst hq8
          clear htv8 hbv8
          refine dk_icmp_ge (tgt := 68) (pc' := 39) hE dX5_takeName_36 (by decide) rfl (fun hc9 => ?_) (fun hc9 => ?_)
          · skip
            refine dk_aload_n (pc' := 69) hE dX5_takeName_68 rfl rfl rfl ?_
            refine gf_5_1 (pc' := 72) (w := 9) hE fl_X5_11 dX5_takeName_69 is_8 rfl rfl ?_
            refine dk_aload_n (pc' := 73) hE dX5_takeName_72 rfl rfl rfl ?_
            refine gf_5_2 (pc' := 76) hE fl_X5_28 dX5_takeName_73 is_8 rfl (fun v10 hv10 htv10 hbv10 => ?_)
            have hq10 : v6 = v10 := (show v10 = v6 by rw [hv10, hv8]).symm
            subst hq10
            clear htv10 hbv10
            refine dk_aload_n (pc' := 77) hE dX5_takeName_76 rfl rfl rfl ?_
            refine gf_5_0 (pc' := 80) (w := 6) hE fl_X5_17 dX5_takeName_77 is_8 rfl rfl ?_
            refine gf_9_7 (pc' := 83) hE fl_X5_154 dX5_takeName_80 is_6 rfl (fun v11 hv11 htv11 hbv11 => ?_)
            refine pa_24 (pc' := 84) hE dX5_takeName_83 is_9 (by omega) trivial rfl (fun σ12 eσ12 => ?_)
            refine dk_aload_n (pc' := 85) hE dX5_takeName_84 rfl rfl rfl ?_
            refine dk_dup (pc' := 86) hE dX5_takeName_85 (show (4 : Nat) ≠ 3 by decide) rfl ?_
            refine gf_5_2 (pc' := 89) hE fl_X5_28 dX5_takeName_86 is_8 rfl (fun v13 hv13 htv13 hbv13 => ?_)
            have hq13 : v6 = v13 := (show v13 = v6 by rw [hv13, eσ12, dk_up_n (show ¬ (8 = 9 ∧ 2 = v6) by omega), hv10]).symm
            subst hq13
            clear htv13 hbv13
            refine dk_iconst (pc' := 90) hE dX5_takeName_89 (by decide) rfl ?_
            obtain ⟨v14, hv14⟩ : ∃ z : Int, z = v6 + 1 := ⟨_, rfl⟩
            refine dk_iadd (pc' := 91) hE dX5_takeName_90 hv14.symm (by omega) rfl ?_
            refine pf_5_2 (pc' := 94) hE fl_X5_28 dX5_takeName_91 is_8 (by omega) rfl (fun σ15 eσ15 => ?_)
            refine dk_aload_n (pc' := 95) hE dX5_takeName_94 rfl rfl rfl ?_
            refine gf_5_0 (pc' := 98) (w := 6) hE fl_X5_17 dX5_takeName_95 is_8 rfl rfl ?_
            refine dk_cV (pc' := 101) (as := []) hE lk_X5_73 (ct_X9_advance l G hGd) dX5_takeName_98 rfl is_6 rfl (by decide) (Nat.le_of_ble_eq_true rfl) rfl rfl (fun r17 σ16 hr17 _ => ?_)
            obtain ⟨rfl, hfσ16, hpr17⟩ := hr17
            refine dk_iconst (pc' := 102) hE dX5_takeName_101 (by decide) rfl ?_
            exact dk_zret (st := []) hE hR dX5_takeName_102 (by omega) ⟨_, rfl, (fun k_ j_ h_ => by rw [hfσ16 k_ j_ (fun w_ => h_ (Or.inl (w_))), eσ15, dk_up_n (show ¬ (k_ = 8 ∧ j_ = 2) from fun q_ => h_ (Or.inr (Or.inl (q_)))), eσ12, dk_up_n (show ¬ (k_ = 9 ∧ j_ = v6) from fun q_ => h_ (Or.inr (Or.inr (Or.inr (Or.inr (q_.1)))))), hF31 k_ j_ not_false]), by omega⟩
          · skip
            refine dk_aload_n (pc' := 40) hE dX5_takeName_39 rfl rfl rfl ?_
            refine gf_5_1 (pc' := 43) (w := 9) hE fl_X5_11 dX5_takeName_40 is_8 rfl rfl ?_
            refine dk_iload_n (pc' := 44) hE dX5_takeName_43 rfl rfl rfl ?_
            refine ga_24 (pc' := 45) hE dX5_takeName_44 is_9 (by omega) rfl (fun v18 hv18 htv18 hbv18 => ?_)
            refine dk_aload_n (pc' := 46) hE dX5_takeName_45 rfl rfl rfl ?_
            refine gf_5_0 (pc' := 49) (w := 6) hE fl_X5_17 dX5_takeName_46 is_8 rfl rfl ?_
            refine gf_9_7 (pc' := 52) hE fl_X5_154 dX5_takeName_49 is_6 rfl (fun v19 hv19 htv19 hbv19 => ?_)
            refine dk_lcmp (pc' := 53) hE dX5_takeName_52 rfl (fun v20 hv20 => ?_)
            refine dk_if_ne (tgt := 62) (pc' := 56) hE dX5_takeName_53 (by decide) rfl (fun hc21 => ?_) (fun hc21 => ?_)
            · skip
              obtain ⟨v22, hv22⟩ : ∃ z : Int, z = i + 1 := ⟨_, rfl⟩
              refine dk_iinc (pc' := 65) (ls' := [(4, 8), (0, v22)]) hE dX5_takeName_62 rfl hv22.symm (by omega) rfl (by decide) rfl ?_
              refine dk_goto (tgt := 31) hE dX5_takeName_65 (by decide) ?_
              exact ih31 v22 σ31c (by omega) (fun k_ j_ h_ => by rw [hF31 k_ j_ not_false]) (by omega)
            · skip
              refine dk_aload_n (pc' := 57) hE dX5_takeName_56 rfl rfl rfl ?_
              refine dk_iconst (pc' := 58) hE dX5_takeName_57 (by decide) rfl ?_
              refine dk_cV (pc' := 61) (as := [(0, 3)]) hE lk_X5_69 (ct_X5_refuse l G hGd 3) dX5_takeName_58 rfl is_8 rfl (by decide) (Nat.le_of_ble_eq_true rfl) rfl rfl (fun r24 σ23 hr24 _ => ?_)
              obtain ⟨v25, rfl, hfσ23, hpr24⟩ := hr24
              exact dk_zret (st := []) hE hR dX5_takeName_61 (by omega) ⟨_, rfl, (fun k_ j_ h_ => by rw [hfσ23 k_ j_ (fun w_ => h_ (w_.elim (fun x0_ => Or.inr (Or.inr (Or.inl (x0_)))) (fun y0_ => Or.inr (Or.inr (Or.inr (Or.inl (y0_))))))), hF31 k_ j_ not_false]), by omega⟩
      exact lp31 _ 0 σ (Nat.lt_succ_self _) (fun k_ j_ h_ => rfl) (by omega)
    · skip
      refine dk_aload_n (pc' := 24) hE dX5_takeName_23 rfl rfl rfl ?_
      refine dk_iconst (pc' := 25) hE dX5_takeName_24 (by decide) rfl ?_
      refine dk_cV (pc' := 28) (as := [(0, 2)]) hE lk_X5_69 (ct_X5_refuse l G hGd 2) dX5_takeName_25 rfl is_8 rfl (by decide) (Nat.le_of_ble_eq_true rfl) rfl rfl (fun r27 σ26 hr27 _ => ?_)
      obtain ⟨v28, rfl, hfσ26, hpr27⟩ := hr27
      exact dk_zret (st := []) hE hR dX5_takeName_28 (by omega) ⟨_, rfl, (fun k_ j_ h_ => by rw [hfσ26 k_ j_ (fun w_ => h_ (w_.elim (fun x0_ => Or.inr (Or.inr (Or.inl (x0_)))) (fun y0_ => Or.inr (Or.inr (Or.inr (Or.inl (y0_)))))))]), by omega⟩
set_option maxHeartbeats 4000000 in
set_option maxRecDepth 20000 in
theorem ct_X5_takeFloor (l : Launch) (G : dkG) (hGd : dk_Gd G) (s : Int) : dk_Ct l G dk_Ty yX5_takeFloor cX5_takeFloor 1 (some .boolean) 7 190 190 (fun av σ => av = [(4, 8)] ∧ (GI σ) ∧ (dk_sc s) ∧ (s = σ 8 4)) (fun _ σ r_ σ' => ∃ z : Int, r_ = some (0, z) ∧ (∀ k_ j_ : Int, ¬ (k_ = 6 ∨ (k_ = 8 ∧ j_ = 2) ∨ (k_ = 8 ∧ j_ = 5) ∨ (k_ = 8 ∧ j_ = 6) ∨ k_ = 9 ∨ (k_ = 8 ∧ j_ = 3) ∨ (95 ≤ k_ ∧ k_ ≤ 140)) → σ' k_ j_ = σ k_ j_) ∧ ((0 ≤ z ∧ z ≤ 1) ∧ GI σ')) := by
  refine dk_enter hGd (by decide) (fun av σ hpre hok => ?_)
  obtain ⟨rfl, hG, hs, h84⟩ := hpre
  refine ⟨Nat.le_of_ble_eq_true rfl, fun E hE hR _ => ?_⟩
  show dk_PJ E 0 [(4, 8)] [] 190 σ
  refine dk_aload_n (pc' := 1) hE dX5_takeFloor_0 rfl rfl rfl ?_
  refine gf_5_3 (pc' := 4) hE fl_X5_32 dX5_takeFloor_1 is_8 rfl (fun v1 hv1 htv1 hbv1 => ?_)
  refine dk_if_eq (tgt := 13) (pc' := 7) hE dX5_takeFloor_4 (by decide) rfl (fun hc2 => ?_) (fun hc2 => ?_)
  · skip
    refine dk_aload_n (pc' := 14) hE dX5_takeFloor_13 rfl rfl rfl ?_
    refine dk_iconst (pc' := 15) hE dX5_takeFloor_14 (by decide) rfl ?_
    refine pf_5_3 (pc' := 18) hE fl_X5_32 dX5_takeFloor_15 is_8 (by omega) trivial rfl (fun σ3 eσ3 => ?_)
    refine dk_aload_n (pc' := 19) hE dX5_takeFloor_18 rfl rfl rfl ?_
    refine gf_5_0 (pc' := 22) (w := 6) hE fl_X5_17 dX5_takeFloor_19 is_8 rfl rfl ?_
    refine dk_cV (pc' := 25) (as := []) hE lk_X5_73 (ct_X9_advance l G hGd) dX5_takeFloor_22 rfl is_6 rfl (by decide) (Nat.le_of_ble_eq_true rfl) rfl rfl (fun r5 σ4 hr5 _ => ?_)
    obtain ⟨rfl, hfσ4, hpr5⟩ := hr5
    refine dk_aload_n (pc' := 26) hE dX5_takeFloor_25 rfl rfl rfl ?_
    refine dk_iconst (pc' := 27) hE dX5_takeFloor_26 (by decide) rfl ?_
    refine dk_bipush (pc' := 29) hE dX5_takeFloor_27 (by decide) rfl ?_
    refine dk_cV (pc' := 32) (as := [(0, 1), (0, 20)]) hE lk_X5_76 (ct_X5_isNumber l G hGd 1 20) dX5_takeFloor_29 rfl is_8 rfl (by decide) (Nat.le_of_ble_eq_true rfl) rfl rfl (fun r7 σ6 hr7 _ => ?_)
    obtain ⟨v8, rfl, hfσ6, hpr7⟩ := hr7
    refine dk_if_ne (tgt := 37) (pc' := 35) hE dX5_takeFloor_32 (by decide) rfl (fun hc9 => ?_) (fun hc9 => ?_)
    · skip
      refine dk_aload_n (pc' := 38) hE dX5_takeFloor_37 rfl rfl rfl ?_
      refine gf_5_4 (pc' := 41) hE fl_X5_21 dX5_takeFloor_38 is_8 rfl (fun v10 hv10 htv10 hbv10 => ?_)
      have hq10 : s = v10 := (show v10 = s by rw [hv10, hfσ6 8 4 (by omega), hfσ4 8 4 (by omega), eσ3, dk_up_n (show ¬ (8 = 8 ∧ 4 = 3) by omega), h84]).symm
      subst hq10
      clear htv10 hbv10
      refine dk_aload_n (pc' := 42) hE dX5_takeFloor_41 rfl rfl rfl ?_
      refine dk_cV (pc' := 45) (as := []) hE lk_X5_80 (ct_X5_takeNumber l G hGd) dX5_takeFloor_42 rfl is_8 rfl (by decide) (Nat.le_of_ble_eq_true rfl) rfl rfl (fun r12 σ11 hr12 _ => ?_)
      obtain ⟨v13, rfl, hfσ11, hpr12⟩ := hr12
      refine pf_4_14 (pc' := 48) hE fl_X5_84 dX5_takeFloor_45 (sc_is (by omega)) trivial rfl (fun σ14 eσ14 => ?_)
      refine dk_aload_n (pc' := 49) hE dX5_takeFloor_48 rfl rfl rfl ?_
      refine dk_iconst (pc' := 50) hE dX5_takeFloor_49 (by decide) rfl ?_
      refine dk_bipush (pc' := 52) hE dX5_takeFloor_50 (by decide) rfl ?_
      refine dk_cV (pc' := 55) (as := [(0, 1), (0, 20)]) hE lk_X5_76 (ct_X5_isNumber l G hGd 1 20) dX5_takeFloor_52 rfl is_8 rfl (by decide) (Nat.le_of_ble_eq_true rfl) rfl rfl (fun r16 σ15 hr16 _ => ?_)
      obtain ⟨v17, rfl, hfσ15, hpr16⟩ := hr16
      refine dk_if_ne (tgt := 60) (pc' := 58) hE dX5_takeFloor_55 (by decide) rfl (fun hc18 => ?_) (fun hc18 => ?_)
      · skip
        refine dk_aload_n (pc' := 61) hE dX5_takeFloor_60 rfl rfl rfl ?_
        refine gf_5_4 (pc' := 64) hE fl_X5_21 dX5_takeFloor_61 is_8 rfl (fun v19 hv19 htv19 hbv19 => ?_)
        have hq19 : s = v19 := (show v19 = s by rw [hv19, hfσ15 8 4 (by omega), eσ14, dk_up_n (show ¬ (8 = s ∧ 4 = 14) by omega), hfσ11 8 4 (by omega), hv10]).symm
        subst hq19
        clear htv19 hbv19
        refine dk_aload_n (pc' := 65) hE dX5_takeFloor_64 rfl rfl rfl ?_
        refine dk_cV (pc' := 68) (as := []) hE lk_X5_80 (ct_X5_takeNumber l G hGd) dX5_takeFloor_65 rfl is_8 rfl (by decide) (Nat.le_of_ble_eq_true rfl) rfl rfl (fun r21 σ20 hr21 _ => ?_)
        obtain ⟨v22, rfl, hfσ20, hpr21⟩ := hr21
        refine pf_4_15 (pc' := 71) hE fl_X5_87 dX5_takeFloor_68 (sc_is (by omega)) trivial rfl (fun σ23 eσ23 => ?_)
        refine dk_aload_n (pc' := 72) hE dX5_takeFloor_71 rfl rfl rfl ?_
        refine dk_iconst (pc' := 73) hE dX5_takeFloor_72 (by decide) rfl ?_
        refine dk_cV (pc' := 76) (as := [(0, 5)]) hE lk_X5_90 (ct_X5_take l G hGd 5) dX5_takeFloor_73 rfl is_8 rfl (by decide) (Nat.le_of_ble_eq_true rfl) rfl rfl (fun r25 σ24 hr25 _ => ?_)
        obtain ⟨v26, rfl, hfσ24, hpr25⟩ := hr25
        refine dk_if_eq (tgt := 89) (pc' := 79) hE dX5_takeFloor_76 (by decide) rfl (fun hc27 => ?_) (fun hc27 => ?_)
        · skip
          refine dk_iconst (pc' := 90) hE dX5_takeFloor_89 (by decide) rfl ?_
          have hw28 : 95 ≤ s ∧ s ≤ 140 := by omega
          have gi29 : GI σ24 := GI_fr hG (fun k_ j_ h_ => by rw [hfσ24 k_ j_ (fpw15_1614500924 k_ j_ h_), eσ23, dk_up_n (show ¬ (k_ = s ∧ j_ = 15) by omega), hfσ20 k_ j_ (fpw15_3205328614 k_ j_ h_), hfσ15 k_ j_ (fpw15_2838667018 k_ j_ h_), eσ14, dk_up_n (show ¬ (k_ = s ∧ j_ = 14) by omega), hfσ11 k_ j_ (fpw15_3205328614 k_ j_ h_), hfσ6 k_ j_ (fpw15_2838667018 k_ j_ h_), hfσ4 k_ j_ (fpw15_3205328614 k_ j_ h_), eσ3, dk_up_n (show ¬ (k_ = 8 ∧ j_ = 3) from fun q_ => fpn15_8 q_.1 h_)])
          exact dk_zret (st := []) hE hR dX5_takeFloor_90 (by omega) ⟨_, rfl, (fun k_ j_ h_ => by rw [hfσ24 k_ j_ (fun w_ => h_ (w_.elim (fun x0_ => Or.inl (x0_)) (fun y0_ => y0_.elim (fun x1_ => Or.inr (Or.inr (Or.inl (x1_)))) (fun y1_ => Or.inr (Or.inr (Or.inr (Or.inl (y1_)))))))), eσ23, dk_up_n (show ¬ (k_ = s ∧ j_ = 15) from fun q_ => h_ (Or.inr (Or.inr (Or.inr (Or.inr (Or.inr (Or.inr (dk_wr q_.1 hw28)))))))), hfσ20 k_ j_ (fun w_ => h_ (Or.inl (w_))), hfσ15 k_ j_ (fun w_ => h_ (w_.elim (fun x0_ => Or.inr (Or.inr (Or.inl (x0_)))) (fun y0_ => Or.inr (Or.inr (Or.inr (Or.inl (y0_))))))), eσ14, dk_up_n (show ¬ (k_ = s ∧ j_ = 14) from fun q_ => h_ (Or.inr (Or.inr (Or.inr (Or.inr (Or.inr (Or.inr (dk_wr q_.1 hw28)))))))), hfσ11 k_ j_ (fun w_ => h_ (Or.inl (w_))), hfσ6 k_ j_ (fun w_ => h_ (w_.elim (fun x0_ => Or.inr (Or.inr (Or.inl (x0_)))) (fun y0_ => Or.inr (Or.inr (Or.inr (Or.inl (y0_))))))), hfσ4 k_ j_ (fun w_ => h_ (Or.inl (w_))), eσ3, dk_up_n (show ¬ (k_ = 8 ∧ j_ = 3) from fun q_ => h_ (Or.inr (Or.inr (Or.inr (Or.inr (Or.inr (Or.inl (q_))))))))]), ⟨by omega, gi29⟩⟩
        · skip
          refine dk_aload_n (pc' := 80) hE dX5_takeFloor_79 rfl rfl rfl ?_
          refine dk_iconst (pc' := 81) hE dX5_takeFloor_80 (by decide) rfl ?_
          refine dk_bipush (pc' := 83) hE dX5_takeFloor_81 (by decide) rfl ?_
          refine dk_cV (pc' := 86) (as := [(0, 0), (0, 9)]) hE lk_X5_76 (ct_X5_isNumber l G hGd 0 9) dX5_takeFloor_83 rfl is_8 rfl (by decide) (Nat.le_of_ble_eq_true rfl) rfl rfl (fun r31 σ30 hr31 _ => ?_)
          obtain ⟨v32, rfl, hfσ30, hpr31⟩ := hr31
          refine dk_if_ne (tgt := 91) (pc' := 89) hE dX5_takeFloor_86 (by decide) rfl (fun hc33 => ?_) (fun hc33 => ?_)
          · skip
            refine dk_aload_n (pc' := 92) hE dX5_takeFloor_91 rfl rfl rfl ?_
            refine gf_5_4 (pc' := 95) hE fl_X5_21 dX5_takeFloor_92 is_8 rfl (fun v34 hv34 htv34 hbv34 => ?_)
            have hq34 : s = v34 := (show v34 = s by rw [hv34, hfσ30 8 4 (by omega), hfσ24 8 4 (by omega), eσ23, dk_up_n (show ¬ (8 = s ∧ 4 = 15) by omega), hfσ20 8 4 (by omega), hv19]).symm
            subst hq34
            clear htv34 hbv34
            refine dk_aload_n (pc' := 96) hE dX5_takeFloor_95 rfl rfl rfl ?_
            refine dk_cV (pc' := 99) (as := []) hE lk_X5_80 (ct_X5_takeNumber l G hGd) dX5_takeFloor_96 rfl is_8 rfl (by decide) (Nat.le_of_ble_eq_true rfl) rfl rfl (fun r36 σ35 hr36 _ => ?_)
            obtain ⟨v37, rfl, hfσ35, hpr36⟩ := hr36
            refine pf_4_16 (pc' := 102) hE fl_X5_93 dX5_takeFloor_99 (sc_is (by omega)) (by omega) rfl (fun σ38 eσ38 => ?_)
            refine dk_aload_n (pc' := 103) hE dX5_takeFloor_102 rfl rfl rfl ?_
            refine dk_bipush (pc' := 105) hE dX5_takeFloor_103 (by decide) rfl ?_
            refine dk_cV (pc' := 108) (as := [(0, 59)]) hE lk_X5_90 (ct_X5_take l G hGd 59) dX5_takeFloor_105 rfl is_8 rfl (by decide) (Nat.le_of_ble_eq_true rfl) rfl rfl (fun r40 σ39 hr40 _ => ?_)
            obtain ⟨v41, rfl, hfσ39, hpr40⟩ := hr40
            have hw42 : 95 ≤ s ∧ s ≤ 140 := by omega
            have gi43 : GI σ39 := GI_fr hG (fun k_ j_ h_ => by rw [hfσ39 k_ j_ (fpw15_1614500924 k_ j_ h_), eσ38, dk_up_n (show ¬ (k_ = s ∧ j_ = 16) by omega), hfσ35 k_ j_ (fpw15_3205328614 k_ j_ h_), hfσ30 k_ j_ (fpw15_2838667018 k_ j_ h_), hfσ24 k_ j_ (fpw15_1614500924 k_ j_ h_), eσ23, dk_up_n (show ¬ (k_ = s ∧ j_ = 15) by omega), hfσ20 k_ j_ (fpw15_3205328614 k_ j_ h_), hfσ15 k_ j_ (fpw15_2838667018 k_ j_ h_), eσ14, dk_up_n (show ¬ (k_ = s ∧ j_ = 14) by omega), hfσ11 k_ j_ (fpw15_3205328614 k_ j_ h_), hfσ6 k_ j_ (fpw15_2838667018 k_ j_ h_), hfσ4 k_ j_ (fpw15_3205328614 k_ j_ h_), eσ3, dk_up_n (show ¬ (k_ = 8 ∧ j_ = 3) from fun q_ => fpn15_8 q_.1 h_)])
            exact dk_zret (st := []) hE hR dX5_takeFloor_108 (by omega) ⟨_, rfl, (fun k_ j_ h_ => by rw [hfσ39 k_ j_ (fun w_ => h_ (w_.elim (fun x0_ => Or.inl (x0_)) (fun y0_ => y0_.elim (fun x1_ => Or.inr (Or.inr (Or.inl (x1_)))) (fun y1_ => Or.inr (Or.inr (Or.inr (Or.inl (y1_)))))))), eσ38, dk_up_n (show ¬ (k_ = s ∧ j_ = 16) from fun q_ => h_ (Or.inr (Or.inr (Or.inr (Or.inr (Or.inr (Or.inr (dk_wr q_.1 hw42)))))))), hfσ35 k_ j_ (fun w_ => h_ (Or.inl (w_))), hfσ30 k_ j_ (fun w_ => h_ (w_.elim (fun x0_ => Or.inr (Or.inr (Or.inl (x0_)))) (fun y0_ => Or.inr (Or.inr (Or.inr (Or.inl (y0_))))))), hfσ24 k_ j_ (fun w_ => h_ (w_.elim (fun x0_ => Or.inl (x0_)) (fun y0_ => y0_.elim (fun x1_ => Or.inr (Or.inr (Or.inl (x1_)))) (fun y1_ => Or.inr (Or.inr (Or.inr (Or.inl (y1_)))))))), eσ23, dk_up_n (show ¬ (k_ = s ∧ j_ = 15) from fun q_ => h_ (Or.inr (Or.inr (Or.inr (Or.inr (Or.inr (Or.inr (dk_wr q_.1 hw42)))))))), hfσ20 k_ j_ (fun w_ => h_ (Or.inl (w_))), hfσ15 k_ j_ (fun w_ => h_ (w_.elim (fun x0_ => Or.inr (Or.inr (Or.inl (x0_)))) (fun y0_ => Or.inr (Or.inr (Or.inr (Or.inl (y0_))))))), eσ14, dk_up_n (show ¬ (k_ = s ∧ j_ = 14) from fun q_ => h_ (Or.inr (Or.inr (Or.inr (Or.inr (Or.inr (Or.inr (dk_wr q_.1 hw42)))))))), hfσ11 k_ j_ (fun w_ => h_ (Or.inl (w_))), hfσ6 k_ j_ (fun w_ => h_ (w_.elim (fun x0_ => Or.inr (Or.inr (Or.inl (x0_)))) (fun y0_ => Or.inr (Or.inr (Or.inr (Or.inl (y0_))))))), hfσ4 k_ j_ (fun w_ => h_ (Or.inl (w_))), eσ3, dk_up_n (show ¬ (k_ = 8 ∧ j_ = 3) from fun q_ => h_ (Or.inr (Or.inr (Or.inr (Or.inr (Or.inr (Or.inl (q_))))))))]), ⟨by omega, gi43⟩⟩
          · skip
            refine dk_iconst (pc' := 90) hE dX5_takeFloor_89 (by decide) rfl ?_
            have hw44 : 95 ≤ s ∧ s ≤ 140 := by omega
            have gi45 : GI σ30 := GI_fr hG (fun k_ j_ h_ => by rw [hfσ30 k_ j_ (fpw15_2838667018 k_ j_ h_), hfσ24 k_ j_ (fpw15_1614500924 k_ j_ h_), eσ23, dk_up_n (show ¬ (k_ = s ∧ j_ = 15) by omega), hfσ20 k_ j_ (fpw15_3205328614 k_ j_ h_), hfσ15 k_ j_ (fpw15_2838667018 k_ j_ h_), eσ14, dk_up_n (show ¬ (k_ = s ∧ j_ = 14) by omega), hfσ11 k_ j_ (fpw15_3205328614 k_ j_ h_), hfσ6 k_ j_ (fpw15_2838667018 k_ j_ h_), hfσ4 k_ j_ (fpw15_3205328614 k_ j_ h_), eσ3, dk_up_n (show ¬ (k_ = 8 ∧ j_ = 3) from fun q_ => fpn15_8 q_.1 h_)])
            exact dk_zret (st := []) hE hR dX5_takeFloor_90 (by omega) ⟨_, rfl, (fun k_ j_ h_ => by rw [hfσ30 k_ j_ (fun w_ => h_ (w_.elim (fun x0_ => Or.inr (Or.inr (Or.inl (x0_)))) (fun y0_ => Or.inr (Or.inr (Or.inr (Or.inl (y0_))))))), hfσ24 k_ j_ (fun w_ => h_ (w_.elim (fun x0_ => Or.inl (x0_)) (fun y0_ => y0_.elim (fun x1_ => Or.inr (Or.inr (Or.inl (x1_)))) (fun y1_ => Or.inr (Or.inr (Or.inr (Or.inl (y1_)))))))), eσ23, dk_up_n (show ¬ (k_ = s ∧ j_ = 15) from fun q_ => h_ (Or.inr (Or.inr (Or.inr (Or.inr (Or.inr (Or.inr (dk_wr q_.1 hw44)))))))), hfσ20 k_ j_ (fun w_ => h_ (Or.inl (w_))), hfσ15 k_ j_ (fun w_ => h_ (w_.elim (fun x0_ => Or.inr (Or.inr (Or.inl (x0_)))) (fun y0_ => Or.inr (Or.inr (Or.inr (Or.inl (y0_))))))), eσ14, dk_up_n (show ¬ (k_ = s ∧ j_ = 14) from fun q_ => h_ (Or.inr (Or.inr (Or.inr (Or.inr (Or.inr (Or.inr (dk_wr q_.1 hw44)))))))), hfσ11 k_ j_ (fun w_ => h_ (Or.inl (w_))), hfσ6 k_ j_ (fun w_ => h_ (w_.elim (fun x0_ => Or.inr (Or.inr (Or.inl (x0_)))) (fun y0_ => Or.inr (Or.inr (Or.inr (Or.inl (y0_))))))), hfσ4 k_ j_ (fun w_ => h_ (Or.inl (w_))), eσ3, dk_up_n (show ¬ (k_ = 8 ∧ j_ = 3) from fun q_ => h_ (Or.inr (Or.inr (Or.inr (Or.inr (Or.inr (Or.inl (q_))))))))]), ⟨by omega, gi45⟩⟩
      · skip
        refine dk_iconst (pc' := 59) hE dX5_takeFloor_58 (by decide) rfl ?_
        have hw46 : 95 ≤ s ∧ s ≤ 140 := by omega
        have gi47 : GI σ15 := GI_fr hG (fun k_ j_ h_ => by rw [hfσ15 k_ j_ (fpw15_2838667018 k_ j_ h_), eσ14, dk_up_n (show ¬ (k_ = s ∧ j_ = 14) by omega), hfσ11 k_ j_ (fpw15_3205328614 k_ j_ h_), hfσ6 k_ j_ (fpw15_2838667018 k_ j_ h_), hfσ4 k_ j_ (fpw15_3205328614 k_ j_ h_), eσ3, dk_up_n (show ¬ (k_ = 8 ∧ j_ = 3) from fun q_ => fpn15_8 q_.1 h_)])
        exact dk_zret (st := []) hE hR dX5_takeFloor_59 (by omega) ⟨_, rfl, (fun k_ j_ h_ => by rw [hfσ15 k_ j_ (fun w_ => h_ (w_.elim (fun x0_ => Or.inr (Or.inr (Or.inl (x0_)))) (fun y0_ => Or.inr (Or.inr (Or.inr (Or.inl (y0_))))))), eσ14, dk_up_n (show ¬ (k_ = s ∧ j_ = 14) from fun q_ => h_ (Or.inr (Or.inr (Or.inr (Or.inr (Or.inr (Or.inr (dk_wr q_.1 hw46)))))))), hfσ11 k_ j_ (fun w_ => h_ (Or.inl (w_))), hfσ6 k_ j_ (fun w_ => h_ (w_.elim (fun x0_ => Or.inr (Or.inr (Or.inl (x0_)))) (fun y0_ => Or.inr (Or.inr (Or.inr (Or.inl (y0_))))))), hfσ4 k_ j_ (fun w_ => h_ (Or.inl (w_))), eσ3, dk_up_n (show ¬ (k_ = 8 ∧ j_ = 3) from fun q_ => h_ (Or.inr (Or.inr (Or.inr (Or.inr (Or.inr (Or.inl (q_))))))))]), ⟨by omega, gi47⟩⟩
    · skip
      refine dk_iconst (pc' := 36) hE dX5_takeFloor_35 (by decide) rfl ?_
      have gi48 : GI σ6 := GI_fr hG (fun k_ j_ h_ => by rw [hfσ6 k_ j_ (fpw15_2838667018 k_ j_ h_), hfσ4 k_ j_ (fpw15_3205328614 k_ j_ h_), eσ3, dk_up_n (show ¬ (k_ = 8 ∧ j_ = 3) from fun q_ => fpn15_8 q_.1 h_)])
      exact dk_zret (st := []) hE hR dX5_takeFloor_36 (by omega) ⟨_, rfl, (fun k_ j_ h_ => by rw [hfσ6 k_ j_ (fun w_ => h_ (w_.elim (fun x0_ => Or.inr (Or.inr (Or.inl (x0_)))) (fun y0_ => Or.inr (Or.inr (Or.inr (Or.inl (y0_))))))), hfσ4 k_ j_ (fun w_ => h_ (Or.inl (w_))), eσ3, dk_up_n (show ¬ (k_ = 8 ∧ j_ = 3) from fun q_ => h_ (Or.inr (Or.inr (Or.inr (Or.inr (Or.inr (Or.inl (q_))))))))]), ⟨by omega, gi48⟩⟩
  · skip
    refine dk_aload_n (pc' := 8) hE dX5_takeFloor_7 rfl rfl rfl ?_
    refine dk_iconst (pc' := 9) hE dX5_takeFloor_8 (by decide) rfl ?_
    refine dk_cV (pc' := 12) (as := [(0, 2)]) hE lk_X5_69 (ct_X5_refuse l G hGd 2) dX5_takeFloor_9 rfl is_8 rfl (by decide) (Nat.le_of_ble_eq_true rfl) rfl rfl (fun r50 σ49 hr50 _ => ?_)
    obtain ⟨v51, rfl, hfσ49, hpr50⟩ := hr50
    have gi52 : GI σ49 := GI_fr hG (fun k_ j_ h_ => by rw [hfσ49 k_ j_ (fpw15_2838667018 k_ j_ h_)])
    exact dk_zret (st := []) hE hR dX5_takeFloor_12 (by omega) ⟨_, rfl, (fun k_ j_ h_ => by rw [hfσ49 k_ j_ (fun w_ => h_ (w_.elim (fun x0_ => Or.inr (Or.inr (Or.inl (x0_)))) (fun y0_ => Or.inr (Or.inr (Or.inr (Or.inl (y0_)))))))]), ⟨by omega, gi52⟩⟩
set_option maxHeartbeats 4000000 in
set_option maxRecDepth 20000 in
theorem ct_X5_takeWork (l : Launch) (G : dkG) (hGd : dk_Gd G) (s : Int) : dk_Ct l G dk_Ty yX5_takeWork cX5_takeWork 1 (some .boolean) 7 190 190 (fun av σ => av = [(4, 8)] ∧ (GI σ) ∧ (dk_sc s) ∧ (s = σ 8 4)) (fun _ σ r_ σ' => ∃ z : Int, r_ = some (0, z) ∧ (∀ k_ j_ : Int, ¬ (k_ = 6 ∨ (k_ = 8 ∧ j_ = 2) ∨ (k_ = 8 ∧ j_ = 5) ∨ (k_ = 8 ∧ j_ = 6) ∨ k_ = 9 ∨ (k_ = 8 ∧ j_ = 3) ∨ (95 ≤ k_ ∧ k_ ≤ 140)) → σ' k_ j_ = σ k_ j_) ∧ ((0 ≤ z ∧ z ≤ 1) ∧ GI σ')) := by
  refine dk_enter hGd (by decide) (fun av σ hpre hok => ?_)
  obtain ⟨rfl, hG, hs, h84⟩ := hpre
  refine ⟨Nat.le_of_ble_eq_true rfl, fun E hE hR _ => ?_⟩
  show dk_PJ E 0 [(4, 8)] [] 190 σ
  refine dk_aload_n (pc' := 1) hE dX5_takeWork_0 rfl rfl rfl ?_
  refine gf_5_4 (pc' := 4) hE fl_X5_21 dX5_takeWork_1 is_8 rfl (fun v1 hv1 htv1 hbv1 => ?_)
  have hq1 : s = v1 := (show v1 = s by rw [hv1, h84]).symm
  subst hq1
  clear htv1 hbv1
  refine gf_4_11 (pc' := 7) hE fl_X5_96 dX5_takeWork_4 (sc_is (by omega)) rfl (fun v2 hv2 htv2 hbv2 => ?_)
  refine dk_iconst (pc' := 8) hE dX5_takeWork_7 (by decide) rfl ?_
  refine dk_icmp_lt (tgt := 17) (pc' := 11) hE dX5_takeWork_8 (by decide) rfl (fun hc3 => ?_) (fun hc3 => ?_)
  · skip
    refine dk_aload_n (pc' := 18) hE dX5_takeWork_17 rfl rfl rfl ?_
    refine gf_5_0 (pc' := 21) (w := 6) hE fl_X5_17 dX5_takeWork_18 is_8 rfl rfl ?_
    refine dk_cV (pc' := 24) (as := []) hE lk_X5_73 (ct_X9_advance l G hGd) dX5_takeWork_21 rfl is_6 rfl (by decide) (Nat.le_of_ble_eq_true rfl) rfl rfl (fun r5 σ4 hr5 _ => ?_)
    obtain ⟨rfl, hfσ4, hpr5⟩ := hr5
    refine dk_aload_n (pc' := 25) hE dX5_takeWork_24 rfl rfl rfl ?_
    refine dk_cV (pc' := 28) (as := []) hE lk_X5_99 (ct_X5_takeName l G hGd) dX5_takeWork_25 rfl is_8 rfl (by decide) (Nat.le_of_ble_eq_true rfl) rfl rfl (fun r7 σ6 hr7 _ => ?_)
    obtain ⟨v8, rfl, hfσ6, hpr7⟩ := hr7
    refine dk_if_ne (tgt := 33) (pc' := 31) hE dX5_takeWork_28 (by decide) rfl (fun hc9 => ?_) (fun hc9 => ?_)
    · skip
      refine dk_aload_n (pc' := 34) hE dX5_takeWork_33 rfl rfl rfl ?_
      refine gf_5_4 (pc' := 37) hE fl_X5_21 dX5_takeWork_34 is_8 rfl (fun v10 hv10 htv10 hbv10 => ?_)
      have hq10 : s = v10 := (show v10 = s by rw [hv10, hfσ6 8 4 (by omega), hfσ4 8 4 (by omega), hv1]).symm
      subst hq10
      clear htv10 hbv10
      refine gf_4_9 (pc' := 40) (w := (s + 21)) hE fl_X5_102 dX5_takeWork_37 (sc_is (by omega)) rfl rfl ?_
      refine dk_aload_n (pc' := 41) hE dX5_takeWork_40 rfl rfl rfl ?_
      refine gf_5_4 (pc' := 44) hE fl_X5_21 dX5_takeWork_41 is_8 rfl (fun v11 hv11 htv11 hbv11 => ?_)
      have hq11 : s = v11 := (show v11 = s by rw [hv11, hv10]).symm
      subst hq11
      clear htv11 hbv11
      refine gf_4_11 (pc' := 47) hE fl_X5_96 dX5_takeWork_44 (sc_is (by omega)) rfl (fun v12 hv12 htv12 hbv12 => ?_)
      have hq12 : v2 = v12 := (show v12 = v2 by rw [hv12, hfσ6 s 11 (by omega), hfσ4 s 11 (by omega), hv2]).symm
      subst hq12
      clear htv12 hbv12
      refine dk_aload_n (pc' := 48) hE dX5_takeWork_47 rfl rfl rfl ?_
      refine gf_5_4 (pc' := 51) hE fl_X5_21 dX5_takeWork_48 is_8 rfl (fun v13 hv13 htv13 hbv13 => ?_)
      have hq13 : s = v13 := (show v13 = s by rw [hv13, hv11]).symm
      subst hq13
      clear htv13 hbv13
      refine gf_4_12 (pc' := 54) hE fl_X5_106 dX5_takeWork_51 (sc_is (by omega)) rfl (fun v14 hv14 htv14 hbv14 => ?_)
      refine pa_68 (pc' := 55) hE dX5_takeWork_54 (sc_21 hs) (by omega) (by omega) rfl (fun σ15 eσ15 => ?_)
      refine dk_aload_n (pc' := 56) hE dX5_takeWork_55 rfl rfl rfl ?_
      refine gf_5_4 (pc' := 59) hE fl_X5_21 dX5_takeWork_56 is_8 rfl (fun v16 hv16 htv16 hbv16 => ?_)
      have hq16 : s = v16 := (show v16 = s by rw [hv16, eσ15, dk_up_n (show ¬ (8 = (s + 21) ∧ 4 = v2) by omega), hv13]).symm
      subst hq16
      clear htv16 hbv16
      refine gf_4_10 (pc' := 62) (w := (s + 22)) hE fl_X5_109 dX5_takeWork_59 (sc_is (by omega)) rfl rfl ?_
      refine dk_aload_n (pc' := 63) hE dX5_takeWork_62 rfl rfl rfl ?_
      refine gf_5_4 (pc' := 66) hE fl_X5_21 dX5_takeWork_63 is_8 rfl (fun v17 hv17 htv17 hbv17 => ?_)
      have hq17 : s = v17 := (show v17 = s by rw [hv17, hv16]).symm
      subst hq17
      clear htv17 hbv17
      refine gf_4_11 (pc' := 69) hE fl_X5_96 dX5_takeWork_66 (sc_is (by omega)) rfl (fun v18 hv18 htv18 hbv18 => ?_)
      have hq18 : v2 = v18 := (show v18 = v2 by rw [hv18, eσ15, dk_up_n (show ¬ (s = (s + 21) ∧ 11 = v2) by omega), hv12]).symm
      subst hq18
      clear htv18 hbv18
      refine dk_iconst (pc' := 70) hE dX5_takeWork_69 (by decide) rfl ?_
      refine pa_69 (pc' := 71) hE dX5_takeWork_70 (sc_22 hs) (by omega) (by omega) rfl (fun σ19 eσ19 => ?_)
      refine dk_aload_n (pc' := 72) hE dX5_takeWork_71 rfl rfl rfl ?_
      refine gf_5_4 (pc' := 75) hE fl_X5_21 dX5_takeWork_72 is_8 rfl (fun v20 hv20 htv20 hbv20 => ?_)
      have hq20 : s = v20 := (show v20 = s by rw [hv20, eσ19, dk_up_n (show ¬ (8 = (s + 22) ∧ 4 = v2) by omega), hv17]).symm
      subst hq20
      clear htv20 hbv20
      refine dk_dup (pc' := 76) hE dX5_takeWork_75 (show (4 : Nat) ≠ 3 by decide) rfl ?_
      refine gf_4_11 (pc' := 79) hE fl_X5_96 dX5_takeWork_76 (sc_is (by omega)) rfl (fun v21 hv21 htv21 hbv21 => ?_)
      have hq21 : v2 = v21 := (show v21 = v2 by rw [hv21, eσ19, dk_up_n (show ¬ (s = (s + 22) ∧ 11 = v2) by omega), hv18]).symm
      subst hq21
      clear htv21 hbv21
      refine dk_iconst (pc' := 80) hE dX5_takeWork_79 (by decide) rfl ?_
      obtain ⟨v22, hv22⟩ : ∃ z : Int, z = v2 + 1 := ⟨_, rfl⟩
      refine dk_iadd (pc' := 81) hE dX5_takeWork_80 hv22.symm (by omega) rfl ?_
      refine pf_4_11 (pc' := 84) hE fl_X5_96 dX5_takeWork_81 (sc_is (by omega)) (by omega) rfl (fun σ23 eσ23 => ?_)
      have hz24 : σ6 s 11 = σ s 11 := by rw [hfσ6 s 11 (by omega), hfσ4 s 11 (by omega)]
      have hz25 : σ6 s 12 = σ s 12 := by rw [hfσ6 s 12 (by omega), hfσ4 s 12 (by omega)]
      have gi26 : GI σ6 := GI_fr hG (fun k_ j_ h_ => by rw [hfσ6 k_ j_ (fpw15_3236895349 k_ j_ h_), hfσ4 k_ j_ (fpw15_3205328614 k_ j_ h_)])
      have gi27 : GI σ23 := GI_work (s := s) gi26 hs (by omega) (by omega) (by omega) (by omega) (by omega) eσ15 eσ19 eσ23
      refine dk_aload_n (pc' := 85) hE dX5_takeWork_84 rfl rfl rfl ?_
      refine dk_bipush (pc' := 87) hE dX5_takeWork_85 (by decide) rfl ?_
      refine dk_cV (pc' := 90) (as := [(0, 59)]) hE lk_X5_90 (ct_X5_take l G hGd 59) dX5_takeWork_87 rfl is_8 rfl (by decide) (Nat.le_of_ble_eq_true rfl) rfl rfl (fun r29 σ28 hr29 _ => ?_)
      obtain ⟨v30, rfl, hfσ28, hpr29⟩ := hr29
      have hw31 : 95 ≤ s ∧ s ≤ 140 := by omega
      have hw32 : 95 ≤ (s + 22) ∧ (s + 22) ≤ 140 := by omega
      have hw33 : 95 ≤ (s + 21) ∧ (s + 21) ≤ 140 := by omega
      have gi34 : GI σ28 := GI_fr gi27 (fun k_ j_ h_ => by rw [hfσ28 k_ j_ (fpw15_1614500924 k_ j_ h_)])
      exact dk_zret (st := []) hE hR dX5_takeWork_90 (by omega) ⟨_, rfl, (fun k_ j_ h_ => by rw [hfσ28 k_ j_ (fun w_ => h_ (w_.elim (fun x0_ => Or.inl (x0_)) (fun y0_ => y0_.elim (fun x1_ => Or.inr (Or.inr (Or.inl (x1_)))) (fun y1_ => Or.inr (Or.inr (Or.inr (Or.inl (y1_)))))))), eσ23, dk_up_n (show ¬ (k_ = s ∧ j_ = 11) from fun q_ => h_ (Or.inr (Or.inr (Or.inr (Or.inr (Or.inr (Or.inr (dk_wr q_.1 hw31)))))))), eσ19, dk_up_n (show ¬ (k_ = (s + 22) ∧ j_ = v2) from fun q_ => h_ (Or.inr (Or.inr (Or.inr (Or.inr (Or.inr (Or.inr (dk_wr q_.1 hw32)))))))), eσ15, dk_up_n (show ¬ (k_ = (s + 21) ∧ j_ = v2) from fun q_ => h_ (Or.inr (Or.inr (Or.inr (Or.inr (Or.inr (Or.inr (dk_wr q_.1 hw33)))))))), hfσ6 k_ j_ (fun w_ => h_ (w_.elim (fun x0_ => Or.inl (x0_)) (fun y0_ => y0_.elim (fun x1_ => Or.inr (Or.inl (x1_))) (fun y1_ => y1_.elim (fun x2_ => Or.inr (Or.inr (Or.inl (x2_)))) (fun y2_ => y2_.elim (fun x3_ => Or.inr (Or.inr (Or.inr (Or.inl (x3_))))) (fun y3_ => Or.inr (Or.inr (Or.inr (Or.inr (Or.inl (y3_))))))))))), hfσ4 k_ j_ (fun w_ => h_ (Or.inl (w_)))]), ⟨by omega, gi34⟩⟩
    · skip
      refine dk_iconst (pc' := 32) hE dX5_takeWork_31 (by decide) rfl ?_
      have gi35 : GI σ6 := GI_fr hG (fun k_ j_ h_ => by rw [hfσ6 k_ j_ (fpw15_3236895349 k_ j_ h_), hfσ4 k_ j_ (fpw15_3205328614 k_ j_ h_)])
      exact dk_zret (st := []) hE hR dX5_takeWork_32 (by omega) ⟨_, rfl, (fun k_ j_ h_ => by rw [hfσ6 k_ j_ (fun w_ => h_ (w_.elim (fun x0_ => Or.inl (x0_)) (fun y0_ => y0_.elim (fun x1_ => Or.inr (Or.inl (x1_))) (fun y1_ => y1_.elim (fun x2_ => Or.inr (Or.inr (Or.inl (x2_)))) (fun y2_ => y2_.elim (fun x3_ => Or.inr (Or.inr (Or.inr (Or.inl (x3_))))) (fun y3_ => Or.inr (Or.inr (Or.inr (Or.inr (Or.inl (y3_))))))))))), hfσ4 k_ j_ (fun w_ => h_ (Or.inl (w_)))]), ⟨by omega, gi35⟩⟩
  · skip
    refine dk_aload_n (pc' := 12) hE dX5_takeWork_11 rfl rfl rfl ?_
    refine dk_iconst (pc' := 13) hE dX5_takeWork_12 (by decide) rfl ?_
    refine dk_cV (pc' := 16) (as := [(0, 2)]) hE lk_X5_69 (ct_X5_refuse l G hGd 2) dX5_takeWork_13 rfl is_8 rfl (by decide) (Nat.le_of_ble_eq_true rfl) rfl rfl (fun r37 σ36 hr37 _ => ?_)
    obtain ⟨v38, rfl, hfσ36, hpr37⟩ := hr37
    have gi39 : GI σ36 := GI_fr hG (fun k_ j_ h_ => by rw [hfσ36 k_ j_ (fpw15_2838667018 k_ j_ h_)])
    exact dk_zret (st := []) hE hR dX5_takeWork_16 (by omega) ⟨_, rfl, (fun k_ j_ h_ => by rw [hfσ36 k_ j_ (fun w_ => h_ (w_.elim (fun x0_ => Or.inr (Or.inr (Or.inl (x0_)))) (fun y0_ => Or.inr (Or.inr (Or.inr (Or.inl (y0_)))))))]), ⟨by omega, gi39⟩⟩
set_option maxHeartbeats 4000000 in
set_option maxRecDepth 20000 in
theorem ct_X5_takeSteps (l : Launch) (G : dkG) (hGd : dk_Gd G) (p s : Int) : dk_Ct l G dk_Ty yX5_takeSteps cX5_takeSteps 6 (some .boolean) 5 190 190 (fun av σ => av = [(4, 8), (0, p)] ∧ (GI σ) ∧ (dk_sc s) ∧ (s = σ 8 4) ∧ (0 ≤ p ∧ p < 12)) (fun _ σ r_ σ' => ∃ z : Int, r_ = some (0, z) ∧ (∀ k_ j_ : Int, ¬ ((99 ≤ k_ ∧ k_ ≤ 110) ∨ (122 ≤ k_ ∧ k_ ≤ 133) ∨ k_ = 112 ∨ k_ = 135) → σ' k_ j_ = σ k_ j_) ∧ ((0 ≤ z ∧ z ≤ 1) ∧ GI σ')) := by
  refine dk_enter hGd (by decide) (fun av σ hpre hok => ?_)
  obtain ⟨rfl, hG, hs, h84, hp⟩ := hpre
  refine ⟨Nat.le_of_ble_eq_true rfl, fun E hE hR _ => ?_⟩
  have hi_p : dk_i32 p := dk_oki (hok _ (by simp))
  show dk_PJ E 0 [(4, 8), (0, p), (9, 0), (9, 0), (9, 0), (9, 0)] [] 190 σ
  have hsl1 : dk_sl (-12 - 10) = 8 := by decide
  have hsl2 : dk_sl (-13 - 10) = 6 := by decide
  refine dk_aload_n (pc' := 1) hE dX5_takeSteps_0 rfl rfl rfl ?_
  refine gf_5_4 (pc' := 4) hE fl_X5_21 dX5_takeSteps_1 is_8 rfl (fun v1 hv1 htv1 hbv1 => ?_)
  have hq1 : s = v1 := (show v1 = s by rw [hv1, h84]).symm
  subst hq1
  clear htv1 hbv1
  refine gf_4_8 (pc' := 7) (w := (s + 20)) hE fl_X5_115 dX5_takeSteps_4 (sc_is (by omega)) rfl rfl ?_
  refine dk_iload_n (pc' := 8) hE dX5_takeSteps_7 rfl rfl rfl ?_
  refine ga_67 (pc' := 9) hE dX5_takeSteps_8 (sc_20 hs) (by omega) rfl (fun v2 hv2 htv2 hbv2 => ?_)
  refine dk_if_eq (tgt := 17) (pc' := 12) hE dX5_takeSteps_9 (by decide) rfl (fun hc3 => ?_) (fun hc3 => ?_)
  · skip
    refine dk_strS136 (pc' := 19) hE rfl dX5_takeSteps_17 rfl ?_
    refine dk_astore_n (pc' := 20) (ls' := [(4, 8), (0, p), (4, (-13)), (9, 0), (9, 0), (9, 0)]) hE dX5_takeSteps_19 rfl rfl (by decide) rfl ?_
    refine dk_iconst (pc' := 21) hE dX5_takeSteps_20 (by decide) rfl ?_
    refine dk_istore_n (pc' := 22) (ls' := [(4, 8), (0, p), (4, (-13)), (0, 0), (9, 0), (9, 0)]) hE dX5_takeSteps_21 rfl rfl (by decide) rfl ?_
    have lp22 : ∀ (N_ : Nat) (i : Int) (σ22c : dkS), (2147483648 - i).toNat < N_ → ((∀ k_ j_ : Int, ¬ ((99 ≤ k_ ∧ k_ ≤ 110) ∨ (122 ≤ k_ ∧ k_ ≤ 133) ∨ k_ = 112 ∨ k_ = 135) → σ22c k_ j_ = σ k_ j_)) → (GI σ22c) → (0 ≤ i) → dk_PJ E 22 [(4, 8), (0, p), (4, (-13)), (0, i), (9, 0), (9, 0)] [] 190 σ22c := by
      intro N22
      induction N22 with
      | zero => intro i σ22c hm; exact absurd hm (Nat.not_lt_zero _)
      | succ N22 ih22 =>
        intro i σ22c hm22 hF22 hG22 hi
        refine dk_iload_n (pc' := 23) hE dX5_takeSteps_22 rfl rfl rfl ?_
        refine dk_aload_n (pc' := 24) hE dX5_takeSteps_23 rfl rfl rfl ?_
        refine gf_5_0 (pc' := 27) (w := 6) hE fl_X5_17 dX5_takeSteps_24 is_8 rfl rfl ?_
        refine gf_9_5 (pc' := 30) hE fl_X5_138 dX5_takeSteps_27 is_6 rfl (fun v4 hv4 htv4 hbv4 => ?_)
        refine dk_icmp_ge (tgt := 106) (pc' := 33) hE dX5_takeSteps_30 (by decide) rfl (fun hc5 => ?_) (fun hc5 => ?_)
        · skip
          refine dk_iconst (pc' := 107) hE dX5_takeSteps_106 (by decide) rfl ?_
          exact dk_zret (st := []) hE hR dX5_takeSteps_107 (by omega) ⟨_, rfl, (fun k_ j_ h_ => by rw [hF22 k_ j_ (fun w_ => h_ (w_.elim (fun x0_ => Or.inl (x0_)) (fun y0_ => y0_.elim (fun x1_ => Or.inr (Or.inl (x1_))) (fun y1_ => y1_.elim (fun x2_ => Or.inr (Or.inr (Or.inl (x2_)))) (fun y2_ => Or.inr (Or.inr (Or.inr (y2_))))))))]), ⟨by omega, hG22⟩⟩
        · skip
          refine dk_aload_n (pc' := 34) hE dX5_takeSteps_33 rfl rfl rfl ?_
          refine dk_aload_n (pc' := 35) hE dX5_takeSteps_34 rfl rfl rfl ?_
          refine gf_5_0 (pc' := 38) (w := 6) hE fl_X5_17 dX5_takeSteps_35 is_8 rfl rfl ?_
          refine dk_iload_n (pc' := 39) hE dX5_takeSteps_38 rfl rfl rfl ?_
          refine dk_cV (pc' := 42) (as := [(0, i)]) hE lk_X5_141 (ct_X9_letter l G hGd i) dX5_takeSteps_39 rfl is_6 rfl (by decide) (Nat.le_of_ble_eq_true rfl) rfl rfl (fun r7 σ6 hr7 _ => ?_)
          obtain ⟨v8, rfl, hfσ6, hpr7⟩ := hr7
          have hsσ6 : σ22c = σ6 := (funext (fun k => funext (fun j => hfσ6 k j not_false))).symm
          subst hsσ6
          refine dk_i2c (pc' := 43) hE dX5_takeSteps_42 rfl (fun v9 hv9 ev9 => ?_)
          refine dk_cW (pc' := 46) (as := [(0, v9)]) hE lk_X5_145 (ct_J0_indexOf_0f7a4 l G hGd (-13) v9) dX5_takeSteps_43 rfl (by omega) rfl (by decide) (Nat.le_of_ble_eq_true rfl) ⟨rfl, (by omega)⟩ rfl (fun r11 σ10 hr11 _ => ?_)
          obtain ⟨v12, rfl, hfσ10, hpr11⟩ := hr11
          have hsσ10 : σ22c = σ10 := (funext (fun k => funext (fun j => hfσ10 k j not_false))).symm
          subst hsσ10
          refine dk_istore (pc' := 48) (ls' := [(4, 8), (0, p), (4, (-13)), (0, i), (0, v12), (9, 0)]) hE dX5_takeSteps_46 rfl (by decide) rfl ?_
          refine dk_aload_n (pc' := 49) hE dX5_takeSteps_48 rfl rfl rfl ?_
          refine gf_5_4 (pc' := 52) hE fl_X5_21 dX5_takeSteps_49 is_8 rfl (fun v13 hv13 htv13 hbv13 => ?_)
          have hq13 : s = v13 := (show v13 = s by rw [hv13, hF22 8 4 (by omega), hv1]).symm
          subst hq13
          clear htv13 hbv13
          refine gf_4_5 (pc' := 55) (w := (s + 17)) hE fl_X5_119 dX5_takeSteps_52 (sc_is (by omega)) rfl rfl ?_
          refine dk_iload_n (pc' := 56) hE dX5_takeSteps_55 rfl rfl rfl ?_
          refine ga_64 (pc' := 57) hE dX5_takeSteps_56 (sc_17 hs) (by omega) rfl (fun v14 hv14 htv14 hbv14 => ?_)
          refine dk_istore (pc' := 59) (ls' := [(4, 8), (0, p), (4, (-13)), (0, i), (0, v12), (0, v14)]) hE dX5_takeSteps_57 rfl (by decide) rfl ?_
          refine dk_iload (pc' := 61) hE dX5_takeSteps_59 rfl rfl ?_
          refine dk_if_lt (tgt := 71) (pc' := 64) hE dX5_takeSteps_61 (by decide) rfl (fun hc15 => ?_) (fun hc15 => ?_)
          · skip
            refine dk_iconst (pc' := 72) hE dX5_takeSteps_71 (by decide) rfl ?_
            exact dk_zret (st := []) hE hR dX5_takeSteps_72 (by omega) ⟨_, rfl, (fun k_ j_ h_ => by rw [hF22 k_ j_ (fun w_ => h_ (w_.elim (fun x0_ => Or.inl (x0_)) (fun y0_ => y0_.elim (fun x1_ => Or.inr (Or.inl (x1_))) (fun y1_ => y1_.elim (fun x2_ => Or.inr (Or.inr (Or.inl (x2_)))) (fun y2_ => Or.inr (Or.inr (Or.inr (y2_))))))))]), ⟨by omega, hG22⟩⟩
          · skip
            refine dk_iload (pc' := 66) hE dX5_takeSteps_64 rfl rfl ?_
            refine dk_bipush (pc' := 68) hE dX5_takeSteps_66 (by decide) rfl ?_
            refine dk_icmp_lt (tgt := 73) (pc' := 71) hE dX5_takeSteps_68 (by decide) rfl (fun hc16 => ?_) (fun hc16 => ?_)
            · skip
              refine dk_aload_n (pc' := 74) hE dX5_takeSteps_73 rfl rfl rfl ?_
              refine gf_5_4 (pc' := 77) hE fl_X5_21 dX5_takeSteps_74 is_8 rfl (fun v17 hv17 htv17 hbv17 => ?_)
              have hq17 : s = v17 := (show v17 = s by rw [hv17, hv13]).symm
              subst hq17
              clear htv17 hbv17
              refine gf_4_3 (pc' := 80) (w := (s + 3)) hE fl_X5_150 dX5_takeSteps_77 (sc_is (by omega)) rfl rfl ?_
              refine dk_iload_n (pc' := 81) hE dX5_takeSteps_80 rfl rfl rfl ?_
              refine ga_61 (pc' := 82) (w := (s + 4 + p)) hE dX5_takeSteps_81 (sc_3 hs) (by omega) (by omega) rfl ?_
              refine dk_iload (pc' := 84) hE dX5_takeSteps_82 rfl rfl ?_
              refine dk_iload (pc' := 86) hE dX5_takeSteps_84 rfl rfl ?_
              refine pa_62 (pc' := 87) hE dX5_takeSteps_86 (rw_marks hs (by omega)) (by omega) (by omega) rfl (fun σ18 eσ18 => ?_)
              refine dk_aload_n (pc' := 88) hE dX5_takeSteps_87 rfl rfl rfl ?_
              refine gf_5_4 (pc' := 91) hE fl_X5_21 dX5_takeSteps_88 is_8 rfl (fun v19 hv19 htv19 hbv19 => ?_)
              have hq19 : s = v19 := (show v19 = s by rw [hv19, eσ18, dk_up_n (show ¬ (8 = (s + 4 + p) ∧ 4 = v14) by omega), hv17]).symm
              subst hq19
              clear htv19 hbv19
              refine gf_4_5 (pc' := 94) (w := (s + 17)) hE fl_X5_119 dX5_takeSteps_91 (sc_is (by omega)) rfl rfl ?_
              refine dk_iload_n (pc' := 95) hE dX5_takeSteps_94 rfl rfl rfl ?_
              refine dk_dup2 (pc' := 96) hE dX5_takeSteps_95 (show (0 : Nat) ≠ 3 by decide) (show (4 : Nat) ≠ 3 by decide) rfl ?_
              refine ga_64 (pc' := 97) hE dX5_takeSteps_96 (sc_17 hs) (by omega) rfl (fun v20 hv20 htv20 hbv20 => ?_)
              have hq20 : v14 = v20 := (show v20 = v14 by rw [hv20, eσ18, dk_up_n (show ¬ ((s + 17) = (s + 4 + p) ∧ p = v14) by omega), hv14]).symm
              subst hq20
              clear htv20 hbv20
              refine dk_iconst (pc' := 98) hE dX5_takeSteps_97 (by decide) rfl ?_
              obtain ⟨v21, hv21⟩ : ∃ z : Int, z = v14 + 1 := ⟨_, rfl⟩
              refine dk_iadd (pc' := 99) hE dX5_takeSteps_98 hv21.symm (by omega) rfl ?_
              refine pa_64 (pc' := 100) hE dX5_takeSteps_99 (sc_17 hs) (by omega) (by omega) rfl (fun σ22 eσ22 => ?_)
              have hz23 : σ22c (s + 20) p = σ (s + 20) p := by rw [hF22 (s + 20) p (by omega)]
              have gi24 : GI σ22 := GI_step (s := s) hG22 hs hp (by omega) (by omega) (fun q_ => by omega) (by omega) eσ18 eσ22
              obtain ⟨v25, hv25⟩ : ∃ z : Int, z = i + 1 := ⟨_, rfl⟩
              refine dk_iinc (pc' := 103) (ls' := [(4, 8), (0, p), (4, (-13)), (0, v25), (0, v12), (0, v14)]) hE dX5_takeSteps_100 rfl hv25.symm (by omega) rfl (by decide) rfl ?_
              refine dk_goto (tgt := 22) hE dX5_takeSteps_103 (by decide) ?_
              refine dk_drop (ls' := [(4, 8), (0, p), (4, (-13)), (0, v25), (9, 0), (9, 0)]) [true, true, true, true, false, false] rfl ?_
              exact ih22 v25 σ22 (by omega) (fun k_ j_ h_ => by rw [eσ22, dk_up_n (show ¬ (k_ = (s + 17) ∧ j_ = p) by omega), eσ18, dk_up_n (show ¬ (k_ = (s + 4 + p) ∧ j_ = v14) by omega), hF22 k_ j_ (fun w_ => h_ (w_.elim (fun x0_ => Or.inl (x0_)) (fun y0_ => y0_.elim (fun x1_ => Or.inr (Or.inl (x1_))) (fun y1_ => y1_.elim (fun x2_ => Or.inr (Or.inr (Or.inl (x2_)))) (fun y2_ => Or.inr (Or.inr (Or.inr (y2_))))))))]) gi24 (by omega)
            · skip
              refine dk_iconst (pc' := 72) hE dX5_takeSteps_71 (by decide) rfl ?_
              exact dk_zret (st := []) hE hR dX5_takeSteps_72 (by omega) ⟨_, rfl, (fun k_ j_ h_ => by rw [hF22 k_ j_ (fun w_ => h_ (w_.elim (fun x0_ => Or.inl (x0_)) (fun y0_ => y0_.elim (fun x1_ => Or.inr (Or.inl (x1_))) (fun y1_ => y1_.elim (fun x2_ => Or.inr (Or.inr (Or.inl (x2_)))) (fun y2_ => Or.inr (Or.inr (Or.inr (y2_))))))))]), ⟨by omega, hG22⟩⟩
    exact lp22 _ 0 σ (Nat.lt_succ_self _) (fun k_ j_ h_ => rfl) hG (by omega)
  · skip
    refine dk_strS134 (pc' := 14) hE rfl dX5_takeSteps_12 rfl ?_
    refine dk_goto (tgt := 19) hE dX5_takeSteps_14 (by decide) ?_
    refine dk_astore_n (pc' := 20) (ls' := [(4, 8), (0, p), (4, (-12)), (9, 0), (9, 0), (9, 0)]) hE dX5_takeSteps_19 rfl rfl (by decide) rfl ?_
    refine dk_iconst (pc' := 21) hE dX5_takeSteps_20 (by decide) rfl ?_
    refine dk_istore_n (pc' := 22) (ls' := [(4, 8), (0, p), (4, (-12)), (0, 0), (9, 0), (9, 0)]) hE dX5_takeSteps_21 rfl rfl (by decide) rfl ?_
    have lp22 : ∀ (N_ : Nat) (i : Int) (σ22c : dkS), (2147483648 - i).toNat < N_ → ((∀ k_ j_ : Int, ¬ ((99 ≤ k_ ∧ k_ ≤ 110) ∨ (122 ≤ k_ ∧ k_ ≤ 133) ∨ k_ = 112 ∨ k_ = 135) → σ22c k_ j_ = σ k_ j_)) → (GI σ22c) → (0 ≤ i) → dk_PJ E 22 [(4, 8), (0, p), (4, (-12)), (0, i), (9, 0), (9, 0)] [] 190 σ22c := by
      intro N22
      induction N22 with
      | zero => intro i σ22c hm; exact absurd hm (Nat.not_lt_zero _)
      | succ N22 ih22 =>
        intro i σ22c hm22 hF22 hG22 hi
        refine dk_iload_n (pc' := 23) hE dX5_takeSteps_22 rfl rfl rfl ?_
        refine dk_aload_n (pc' := 24) hE dX5_takeSteps_23 rfl rfl rfl ?_
        refine gf_5_0 (pc' := 27) (w := 6) hE fl_X5_17 dX5_takeSteps_24 is_8 rfl rfl ?_
        refine gf_9_5 (pc' := 30) hE fl_X5_138 dX5_takeSteps_27 is_6 rfl (fun v26 hv26 htv26 hbv26 => ?_)
        refine dk_icmp_ge (tgt := 106) (pc' := 33) hE dX5_takeSteps_30 (by decide) rfl (fun hc27 => ?_) (fun hc27 => ?_)
        · skip
          refine dk_iconst (pc' := 107) hE dX5_takeSteps_106 (by decide) rfl ?_
          exact dk_zret (st := []) hE hR dX5_takeSteps_107 (by omega) ⟨_, rfl, (fun k_ j_ h_ => by rw [hF22 k_ j_ (fun w_ => h_ (w_.elim (fun x0_ => Or.inl (x0_)) (fun y0_ => y0_.elim (fun x1_ => Or.inr (Or.inl (x1_))) (fun y1_ => y1_.elim (fun x2_ => Or.inr (Or.inr (Or.inl (x2_)))) (fun y2_ => Or.inr (Or.inr (Or.inr (y2_))))))))]), ⟨by omega, hG22⟩⟩
        · skip
          refine dk_aload_n (pc' := 34) hE dX5_takeSteps_33 rfl rfl rfl ?_
          refine dk_aload_n (pc' := 35) hE dX5_takeSteps_34 rfl rfl rfl ?_
          refine gf_5_0 (pc' := 38) (w := 6) hE fl_X5_17 dX5_takeSteps_35 is_8 rfl rfl ?_
          refine dk_iload_n (pc' := 39) hE dX5_takeSteps_38 rfl rfl rfl ?_
          refine dk_cV (pc' := 42) (as := [(0, i)]) hE lk_X5_141 (ct_X9_letter l G hGd i) dX5_takeSteps_39 rfl is_6 rfl (by decide) (Nat.le_of_ble_eq_true rfl) rfl rfl (fun r29 σ28 hr29 _ => ?_)
          obtain ⟨v30, rfl, hfσ28, hpr29⟩ := hr29
          have hsσ28 : σ22c = σ28 := (funext (fun k => funext (fun j => hfσ28 k j not_false))).symm
          subst hsσ28
          refine dk_i2c (pc' := 43) hE dX5_takeSteps_42 rfl (fun v31 hv31 ev31 => ?_)
          refine dk_cW (pc' := 46) (as := [(0, v31)]) hE lk_X5_145 (ct_J0_indexOf_0f7a4 l G hGd (-12) v31) dX5_takeSteps_43 rfl (by omega) rfl (by decide) (Nat.le_of_ble_eq_true rfl) ⟨rfl, (by omega)⟩ rfl (fun r33 σ32 hr33 _ => ?_)
          obtain ⟨v34, rfl, hfσ32, hpr33⟩ := hr33
          have hsσ32 : σ22c = σ32 := (funext (fun k => funext (fun j => hfσ32 k j not_false))).symm
          subst hsσ32
          refine dk_istore (pc' := 48) (ls' := [(4, 8), (0, p), (4, (-12)), (0, i), (0, v34), (9, 0)]) hE dX5_takeSteps_46 rfl (by decide) rfl ?_
          refine dk_aload_n (pc' := 49) hE dX5_takeSteps_48 rfl rfl rfl ?_
          refine gf_5_4 (pc' := 52) hE fl_X5_21 dX5_takeSteps_49 is_8 rfl (fun v35 hv35 htv35 hbv35 => ?_)
          have hq35 : s = v35 := (show v35 = s by rw [hv35, hF22 8 4 (by omega), hv1]).symm
          subst hq35
          clear htv35 hbv35
          refine gf_4_5 (pc' := 55) (w := (s + 17)) hE fl_X5_119 dX5_takeSteps_52 (sc_is (by omega)) rfl rfl ?_
          refine dk_iload_n (pc' := 56) hE dX5_takeSteps_55 rfl rfl rfl ?_
          refine ga_64 (pc' := 57) hE dX5_takeSteps_56 (sc_17 hs) (by omega) rfl (fun v36 hv36 htv36 hbv36 => ?_)
          refine dk_istore (pc' := 59) (ls' := [(4, 8), (0, p), (4, (-12)), (0, i), (0, v34), (0, v36)]) hE dX5_takeSteps_57 rfl (by decide) rfl ?_
          refine dk_iload (pc' := 61) hE dX5_takeSteps_59 rfl rfl ?_
          refine dk_if_lt (tgt := 71) (pc' := 64) hE dX5_takeSteps_61 (by decide) rfl (fun hc37 => ?_) (fun hc37 => ?_)
          · skip
            refine dk_iconst (pc' := 72) hE dX5_takeSteps_71 (by decide) rfl ?_
            exact dk_zret (st := []) hE hR dX5_takeSteps_72 (by omega) ⟨_, rfl, (fun k_ j_ h_ => by rw [hF22 k_ j_ (fun w_ => h_ (w_.elim (fun x0_ => Or.inl (x0_)) (fun y0_ => y0_.elim (fun x1_ => Or.inr (Or.inl (x1_))) (fun y1_ => y1_.elim (fun x2_ => Or.inr (Or.inr (Or.inl (x2_)))) (fun y2_ => Or.inr (Or.inr (Or.inr (y2_))))))))]), ⟨by omega, hG22⟩⟩
          · skip
            refine dk_iload (pc' := 66) hE dX5_takeSteps_64 rfl rfl ?_
            refine dk_bipush (pc' := 68) hE dX5_takeSteps_66 (by decide) rfl ?_
            refine dk_icmp_lt (tgt := 73) (pc' := 71) hE dX5_takeSteps_68 (by decide) rfl (fun hc38 => ?_) (fun hc38 => ?_)
            · skip
              refine dk_aload_n (pc' := 74) hE dX5_takeSteps_73 rfl rfl rfl ?_
              refine gf_5_4 (pc' := 77) hE fl_X5_21 dX5_takeSteps_74 is_8 rfl (fun v39 hv39 htv39 hbv39 => ?_)
              have hq39 : s = v39 := (show v39 = s by rw [hv39, hv35]).symm
              subst hq39
              clear htv39 hbv39
              refine gf_4_3 (pc' := 80) (w := (s + 3)) hE fl_X5_150 dX5_takeSteps_77 (sc_is (by omega)) rfl rfl ?_
              refine dk_iload_n (pc' := 81) hE dX5_takeSteps_80 rfl rfl rfl ?_
              refine ga_61 (pc' := 82) (w := (s + 4 + p)) hE dX5_takeSteps_81 (sc_3 hs) (by omega) (by omega) rfl ?_
              refine dk_iload (pc' := 84) hE dX5_takeSteps_82 rfl rfl ?_
              refine dk_iload (pc' := 86) hE dX5_takeSteps_84 rfl rfl ?_
              refine pa_62 (pc' := 87) hE dX5_takeSteps_86 (rw_marks hs (by omega)) (by omega) (by omega) rfl (fun σ40 eσ40 => ?_)
              refine dk_aload_n (pc' := 88) hE dX5_takeSteps_87 rfl rfl rfl ?_
              refine gf_5_4 (pc' := 91) hE fl_X5_21 dX5_takeSteps_88 is_8 rfl (fun v41 hv41 htv41 hbv41 => ?_)
              have hq41 : s = v41 := (show v41 = s by rw [hv41, eσ40, dk_up_n (show ¬ (8 = (s + 4 + p) ∧ 4 = v36) by omega), hv39]).symm
              subst hq41
              clear htv41 hbv41
              refine gf_4_5 (pc' := 94) (w := (s + 17)) hE fl_X5_119 dX5_takeSteps_91 (sc_is (by omega)) rfl rfl ?_
              refine dk_iload_n (pc' := 95) hE dX5_takeSteps_94 rfl rfl rfl ?_
              refine dk_dup2 (pc' := 96) hE dX5_takeSteps_95 (show (0 : Nat) ≠ 3 by decide) (show (4 : Nat) ≠ 3 by decide) rfl ?_
              refine ga_64 (pc' := 97) hE dX5_takeSteps_96 (sc_17 hs) (by omega) rfl (fun v42 hv42 htv42 hbv42 => ?_)
              have hq42 : v36 = v42 := (show v42 = v36 by rw [hv42, eσ40, dk_up_n (show ¬ ((s + 17) = (s + 4 + p) ∧ p = v36) by omega), hv36]).symm
              subst hq42
              clear htv42 hbv42
              refine dk_iconst (pc' := 98) hE dX5_takeSteps_97 (by decide) rfl ?_
              obtain ⟨v43, hv43⟩ : ∃ z : Int, z = v36 + 1 := ⟨_, rfl⟩
              refine dk_iadd (pc' := 99) hE dX5_takeSteps_98 hv43.symm (by omega) rfl ?_
              refine pa_64 (pc' := 100) hE dX5_takeSteps_99 (sc_17 hs) (by omega) (by omega) rfl (fun σ44 eσ44 => ?_)
              have hz45 : σ22c (s + 20) p = σ (s + 20) p := by rw [hF22 (s + 20) p (by omega)]
              have gi46 : GI σ44 := GI_step (s := s) hG22 hs hp (by omega) (by omega) (fun q_ => by omega) (by omega) eσ40 eσ44
              obtain ⟨v47, hv47⟩ : ∃ z : Int, z = i + 1 := ⟨_, rfl⟩
              refine dk_iinc (pc' := 103) (ls' := [(4, 8), (0, p), (4, (-12)), (0, v47), (0, v34), (0, v36)]) hE dX5_takeSteps_100 rfl hv47.symm (by omega) rfl (by decide) rfl ?_
              refine dk_goto (tgt := 22) hE dX5_takeSteps_103 (by decide) ?_
              refine dk_drop (ls' := [(4, 8), (0, p), (4, (-12)), (0, v47), (9, 0), (9, 0)]) [true, true, true, true, false, false] rfl ?_
              exact ih22 v47 σ44 (by omega) (fun k_ j_ h_ => by rw [eσ44, dk_up_n (show ¬ (k_ = (s + 17) ∧ j_ = p) by omega), eσ40, dk_up_n (show ¬ (k_ = (s + 4 + p) ∧ j_ = v36) by omega), hF22 k_ j_ (fun w_ => h_ (w_.elim (fun x0_ => Or.inl (x0_)) (fun y0_ => y0_.elim (fun x1_ => Or.inr (Or.inl (x1_))) (fun y1_ => y1_.elim (fun x2_ => Or.inr (Or.inr (Or.inl (x2_)))) (fun y2_ => Or.inr (Or.inr (Or.inr (y2_))))))))]) gi46 (by omega)
            · skip
              refine dk_iconst (pc' := 72) hE dX5_takeSteps_71 (by decide) rfl ?_
              exact dk_zret (st := []) hE hR dX5_takeSteps_72 (by omega) ⟨_, rfl, (fun k_ j_ h_ => by rw [hF22 k_ j_ (fun w_ => h_ (w_.elim (fun x0_ => Or.inl (x0_)) (fun y0_ => y0_.elim (fun x1_ => Or.inr (Or.inl (x1_))) (fun y1_ => y1_.elim (fun x2_ => Or.inr (Or.inr (Or.inl (x2_)))) (fun y2_ => Or.inr (Or.inr (Or.inr (y2_))))))))]), ⟨by omega, hG22⟩⟩
    exact lp22 _ 0 σ (Nat.lt_succ_self _) (fun k_ j_ h_ => rfl) hG (by omega)
set_option maxHeartbeats 4000000 in
set_option maxRecDepth 20000 in
theorem ct_X5_takeWords (l : Launch) (G : dkG) (hGd : dk_Gd G) (p s : Int) : dk_Ct l G dk_Ty yX5_takeWords cX5_takeWords 3 (some .boolean) 6 190 190 (fun av σ => av = [(4, 8), (0, p)] ∧ (GI σ) ∧ (dk_sc s) ∧ (s = σ 8 4) ∧ (0 ≤ p ∧ p < 12)) (fun _ σ r_ σ' => ∃ z : Int, r_ = some (0, z) ∧ (∀ k_ j_ : Int, ¬ ((99 ≤ k_ ∧ k_ ≤ 110) ∨ (122 ≤ k_ ∧ k_ ≤ 133) ∨ k_ = 112 ∨ k_ = 135 ∨ k_ = 6 ∨ (k_ = 8 ∧ j_ = 5) ∨ (k_ = 8 ∧ j_ = 6)) → σ' k_ j_ = σ k_ j_) ∧ ((0 ≤ z ∧ z ≤ 1) ∧ GI σ')) := by
  refine dk_enter hGd (by decide) (fun av σ hpre hok => ?_)
  obtain ⟨rfl, hG, hs, h84, hp⟩ := hpre
  refine ⟨Nat.le_of_ble_eq_true rfl, fun E hE hR _ => ?_⟩
  have hi_p : dk_i32 p := dk_oki (hok _ (by simp))
  show dk_PJ E 0 [(4, 8), (0, p), (9, 0)] [] 190 σ
  refine dk_aload_n (pc' := 1) hE dX5_takeWords_0 rfl rfl rfl ?_
  refine gf_5_0 (pc' := 4) (w := 6) hE fl_X5_17 dX5_takeWords_1 is_8 rfl rfl ?_
  refine gf_9_3 (pc' := 7) hE fl_X5_49 dX5_takeWords_4 is_6 rfl (fun v1 hv1 htv1 hbv1 => ?_)
  refine dk_iconst (pc' := 8) hE dX5_takeWords_7 (by decide) rfl ?_
  refine dk_icmp_eq (tgt := 17) (pc' := 11) hE dX5_takeWords_8 (by decide) rfl (fun hc2 => ?_) (fun hc2 => ?_)
  · skip
    refine dk_iconst (pc' := 18) hE dX5_takeWords_17 (by decide) rfl ?_
    refine dk_istore_n (pc' := 19) (ls' := [(4, 8), (0, p), (0, 0)]) hE dX5_takeWords_18 rfl rfl (by decide) rfl ?_
    have lp19 : ∀ (N_ : Nat) (i : Int) (σ19c : dkS), (2147483648 - i).toNat < N_ → ((∀ k_ j_ : Int, ¬ ((99 ≤ k_ ∧ k_ ≤ 110) ∨ (122 ≤ k_ ∧ k_ ≤ 133) ∨ k_ = 112 ∨ k_ = 135 ∨ k_ = 6 ∨ (k_ = 8 ∧ j_ = 5) ∨ (k_ = 8 ∧ j_ = 6)) → σ19c k_ j_ = σ k_ j_)) → (GI σ19c) → (0 ≤ i) → dk_PJ E 19 [(4, 8), (0, p), (0, i)] [] 190 σ19c := by
      intro N19
      induction N19 with
      | zero => intro i σ19c hm; exact absurd hm (Nat.not_lt_zero _)
      | succ N19 ih19 =>
        intro i σ19c hm19 hF19 hG19 hi
        refine dk_iload_n (pc' := 20) hE dX5_takeWords_19 rfl rfl rfl ?_
        refine dk_bipush (pc' := 22) hE dX5_takeWords_20 (by decide) rfl ?_
        refine dk_icmp_gt (tgt := 63) (pc' := 25) hE dX5_takeWords_22 (by decide) rfl (fun hc3 => ?_) (fun hc3 => ?_)
        · skip
          refine dk_iconst (pc' := 64) hE dX5_takeWords_63 (by decide) rfl ?_
          exact dk_zret (st := []) hE hR dX5_takeWords_64 (by omega) ⟨_, rfl, (fun k_ j_ h_ => by rw [hF19 k_ j_ (fun w_ => h_ (w_.elim (fun x0_ => Or.inl (x0_)) (fun y0_ => y0_.elim (fun x1_ => Or.inr (Or.inl (x1_))) (fun y1_ => y1_.elim (fun x2_ => Or.inr (Or.inr (Or.inl (x2_)))) (fun y2_ => y2_.elim (fun x3_ => Or.inr (Or.inr (Or.inr (Or.inl (x3_))))) (fun y3_ => y3_.elim (fun x4_ => Or.inr (Or.inr (Or.inr (Or.inr (Or.inl (x4_)))))) (fun y4_ => y4_.elim (fun x5_ => Or.inr (Or.inr (Or.inr (Or.inr (Or.inr (Or.inl (x5_))))))) (fun y5_ => Or.inr (Or.inr (Or.inr (Or.inr (Or.inr (Or.inr (y5_))))))))))))))]), ⟨by omega, hG19⟩⟩
        · skip
          refine dk_aload_n (pc' := 26) hE dX5_takeWords_25 rfl rfl rfl ?_
          refine gf_5_0 (pc' := 29) (w := 6) hE fl_X5_17 dX5_takeWords_26 is_8 rfl rfl ?_
          refine gf_9_3 (pc' := 32) hE fl_X5_49 dX5_takeWords_29 is_6 rfl (fun v4 hv4 htv4 hbv4 => ?_)
          refine dk_iconst (pc' := 33) hE dX5_takeWords_32 (by decide) rfl ?_
          refine dk_icmp_ne (tgt := 63) (pc' := 36) hE dX5_takeWords_33 (by decide) rfl (fun hc5 => ?_) (fun hc5 => ?_)
          · skip
            refine dk_iconst (pc' := 64) hE dX5_takeWords_63 (by decide) rfl ?_
            exact dk_zret (st := []) hE hR dX5_takeWords_64 (by omega) ⟨_, rfl, (fun k_ j_ h_ => by rw [hF19 k_ j_ (fun w_ => h_ (w_.elim (fun x0_ => Or.inl (x0_)) (fun y0_ => y0_.elim (fun x1_ => Or.inr (Or.inl (x1_))) (fun y1_ => y1_.elim (fun x2_ => Or.inr (Or.inr (Or.inl (x2_)))) (fun y2_ => y2_.elim (fun x3_ => Or.inr (Or.inr (Or.inr (Or.inl (x3_))))) (fun y3_ => y3_.elim (fun x4_ => Or.inr (Or.inr (Or.inr (Or.inr (Or.inl (x4_)))))) (fun y4_ => y4_.elim (fun x5_ => Or.inr (Or.inr (Or.inr (Or.inr (Or.inr (Or.inl (x5_))))))) (fun y5_ => Or.inr (Or.inr (Or.inr (Or.inr (Or.inr (Or.inr (y5_))))))))))))))]), ⟨by omega, hG19⟩⟩
          · skip
            refine dk_aload_n (pc' := 37) hE dX5_takeWords_36 rfl rfl rfl ?_
            refine dk_iload_n (pc' := 38) hE dX5_takeWords_37 rfl rfl rfl ?_
            have hz6 : σ19c 8 4 = σ 8 4 := by rw [hF19 8 4 (by omega)]
            refine dk_cV (pc' := 41) (as := [(0, p)]) hE lk_X5_131 (ct_X5_takeSteps l G hGd p s) dX5_takeWords_38 rfl is_8 rfl (by decide) (Nat.le_of_ble_eq_true rfl) ⟨rfl, hG19, (by omega), (by omega), (by omega)⟩ rfl (fun r8 σ7 hr8 _ => ?_)
            obtain ⟨v9, rfl, hfσ7, hpr8⟩ := hr8
            obtain ⟨hpr8, hgr8⟩ := hpr8
            refine dk_if_ne (tgt := 50) (pc' := 44) hE dX5_takeWords_41 (by decide) rfl (fun hc10 => ?_) (fun hc10 => ?_)
            · skip
              refine dk_aload_n (pc' := 51) hE dX5_takeWords_50 rfl rfl rfl ?_
              refine gf_5_0 (pc' := 54) (w := 6) hE fl_X5_17 dX5_takeWords_51 is_8 rfl rfl ?_
              refine dk_cV (pc' := 57) (as := []) hE lk_X5_73 (ct_X9_advance l G hGd) dX5_takeWords_54 rfl is_6 rfl (by decide) (Nat.le_of_ble_eq_true rfl) rfl rfl (fun r12 σ11 hr12 _ => ?_)
              obtain ⟨rfl, hfσ11, hpr12⟩ := hr12
              obtain ⟨v13, hv13⟩ : ∃ z : Int, z = i + 1 := ⟨_, rfl⟩
              refine dk_iinc (pc' := 60) (ls' := [(4, 8), (0, p), (0, v13)]) hE dX5_takeWords_57 rfl hv13.symm (by omega) rfl (by decide) rfl ?_
              refine dk_goto (tgt := 19) hE dX5_takeWords_60 (by decide) ?_
              have gi14 : GI σ11 := GI_fr hgr8 (fun k_ j_ h_ => by rw [hfσ11 k_ j_ (fpw15_3205328614 k_ j_ h_)])
              exact ih19 v13 σ11 (by omega) (fun k_ j_ h_ => by rw [hfσ11 k_ j_ (fun w_ => h_ (Or.inr (Or.inr (Or.inr (Or.inr (Or.inl (w_))))))), hfσ7 k_ j_ (fun w_ => h_ (w_.elim (fun x0_ => Or.inl (x0_)) (fun y0_ => y0_.elim (fun x1_ => Or.inr (Or.inl (x1_))) (fun y1_ => y1_.elim (fun x2_ => Or.inr (Or.inr (Or.inl (x2_)))) (fun y2_ => Or.inr (Or.inr (Or.inr (Or.inl (y2_))))))))), hF19 k_ j_ (fun w_ => h_ (w_.elim (fun x0_ => Or.inl (x0_)) (fun y0_ => y0_.elim (fun x1_ => Or.inr (Or.inl (x1_))) (fun y1_ => y1_.elim (fun x2_ => Or.inr (Or.inr (Or.inl (x2_)))) (fun y2_ => y2_.elim (fun x3_ => Or.inr (Or.inr (Or.inr (Or.inl (x3_))))) (fun y3_ => y3_.elim (fun x4_ => Or.inr (Or.inr (Or.inr (Or.inr (Or.inl (x4_)))))) (fun y4_ => y4_.elim (fun x5_ => Or.inr (Or.inr (Or.inr (Or.inr (Or.inr (Or.inl (x5_))))))) (fun y5_ => Or.inr (Or.inr (Or.inr (Or.inr (Or.inr (Or.inr (y5_))))))))))))))]) gi14 (by omega)
            · skip
              refine dk_aload_n (pc' := 45) hE dX5_takeWords_44 rfl rfl rfl ?_
              refine dk_iconst (pc' := 46) hE dX5_takeWords_45 (by decide) rfl ?_
              refine dk_cV (pc' := 49) (as := [(0, 5)]) hE lk_X5_69 (ct_X5_refuse l G hGd 5) dX5_takeWords_46 rfl is_8 rfl (by decide) (Nat.le_of_ble_eq_true rfl) rfl rfl (fun r16 σ15 hr16 _ => ?_)
              obtain ⟨v17, rfl, hfσ15, hpr16⟩ := hr16
              have gi18 : GI σ15 := GI_fr hgr8 (fun k_ j_ h_ => by rw [hfσ15 k_ j_ (fpw15_2838667018 k_ j_ h_)])
              exact dk_zret (st := []) hE hR dX5_takeWords_49 (by omega) ⟨_, rfl, (fun k_ j_ h_ => by rw [hfσ15 k_ j_ (fun w_ => h_ (w_.elim (fun x0_ => Or.inr (Or.inr (Or.inr (Or.inr (Or.inr (Or.inl (x0_))))))) (fun y0_ => Or.inr (Or.inr (Or.inr (Or.inr (Or.inr (Or.inr (y0_))))))))), hfσ7 k_ j_ (fun w_ => h_ (w_.elim (fun x0_ => Or.inl (x0_)) (fun y0_ => y0_.elim (fun x1_ => Or.inr (Or.inl (x1_))) (fun y1_ => y1_.elim (fun x2_ => Or.inr (Or.inr (Or.inl (x2_)))) (fun y2_ => Or.inr (Or.inr (Or.inr (Or.inl (y2_))))))))), hF19 k_ j_ (fun w_ => h_ (w_.elim (fun x0_ => Or.inl (x0_)) (fun y0_ => y0_.elim (fun x1_ => Or.inr (Or.inl (x1_))) (fun y1_ => y1_.elim (fun x2_ => Or.inr (Or.inr (Or.inl (x2_)))) (fun y2_ => y2_.elim (fun x3_ => Or.inr (Or.inr (Or.inr (Or.inl (x3_))))) (fun y3_ => y3_.elim (fun x4_ => Or.inr (Or.inr (Or.inr (Or.inr (Or.inl (x4_)))))) (fun y4_ => y4_.elim (fun x5_ => Or.inr (Or.inr (Or.inr (Or.inr (Or.inr (Or.inl (x5_))))))) (fun y5_ => Or.inr (Or.inr (Or.inr (Or.inr (Or.inr (Or.inr (y5_))))))))))))))]), ⟨by omega, gi18⟩⟩
    exact lp19 _ 0 σ (Nat.lt_succ_self _) (fun k_ j_ h_ => rfl) hG (by omega)
  · skip
    refine dk_aload_n (pc' := 12) hE dX5_takeWords_11 rfl rfl rfl ?_
    refine dk_iconst (pc' := 13) hE dX5_takeWords_12 (by decide) rfl ?_
    refine dk_cV (pc' := 16) (as := [(0, 2)]) hE lk_X5_69 (ct_X5_refuse l G hGd 2) dX5_takeWords_13 rfl is_8 rfl (by decide) (Nat.le_of_ble_eq_true rfl) rfl rfl (fun r20 σ19 hr20 _ => ?_)
    obtain ⟨v21, rfl, hfσ19, hpr20⟩ := hr20
    have gi22 : GI σ19 := GI_fr hG (fun k_ j_ h_ => by rw [hfσ19 k_ j_ (fpw15_2838667018 k_ j_ h_)])
    exact dk_zret (st := []) hE hR dX5_takeWords_16 (by omega) ⟨_, rfl, (fun k_ j_ h_ => by rw [hfσ19 k_ j_ (fun w_ => h_ (w_.elim (fun x0_ => Or.inr (Or.inr (Or.inr (Or.inr (Or.inr (Or.inl (x0_))))))) (fun y0_ => Or.inr (Or.inr (Or.inr (Or.inr (Or.inr (Or.inr (y0_)))))))))]), ⟨by omega, gi22⟩⟩
