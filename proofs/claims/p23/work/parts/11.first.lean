set_option maxHeartbeats 4000000 in
set_option maxRecDepth 20000 in
theorem ct_X7_at (l : Launch) (G : dkG) (hGd : dk_Gd G) (p : Int) : dk_Ct l G dk_Ty yX7_at cX7_at 2 (some .int) 1 190 190 (fun av σ => av = [(4, 1), (0, p)]) (fun _ σ r_ σ' => ∃ z : Int, r_ = some (0, z) ∧ (∀ k_ j_ : Int, ¬ (False) → σ' k_ j_ = σ k_ j_) ∧ ((0 ≤ p ∧ p < σ 1 1 ∧ σ 1 1 ≤ 1400 ∧ z = σ 2 p ∧ -128 ≤ z ∧ z ≤ 127) ∨ (z = -1 ∧ (p < 0 ∨ σ 1 1 ≤ p)))) := by
  refine dk_enter hGd (by decide) (fun av σ hpre hok => ?_)
  subst hpre
  refine ⟨Nat.le_of_ble_eq_true rfl, fun E hE hR _ => ?_⟩
  have hi_p : dk_i32 p := dk_oki (hok _ (by simp))
  show dk_PJ E 0 [(4, 1), (0, p)] [] 190 σ
  refine dk_iload_n (pc' := 1) hE dX7_at_0 rfl rfl rfl ?_
  refine dk_if_lt (tgt := 21) (pc' := 4) hE dX7_at_1 (by decide) rfl (fun hc1 => ?_) (fun hc1 => ?_)
  · skip
    refine dk_iconst (pc' := 22) hE dX7_at_21 (by decide) rfl ?_
    exact dk_iret (st := []) hE hR dX7_at_22 ⟨_, rfl, (fun k_ j_ h_ => rfl), by omega⟩
  · skip
    refine dk_iload_n (pc' := 5) hE dX7_at_4 rfl rfl rfl ?_
    refine dk_aload_n (pc' := 6) hE dX7_at_5 rfl rfl rfl ?_
    refine gf_7_1 (pc' := 9) hE fl_X7_15 dX7_at_6 is_1 rfl (fun v2 hv2 htv2 hbv2 => ?_)
    refine dk_icmp_ge (tgt := 21) (pc' := 12) hE dX7_at_9 (by decide) rfl (fun hc3 => ?_) (fun hc3 => ?_)
    · skip
      refine dk_iconst (pc' := 22) hE dX7_at_21 (by decide) rfl ?_
      exact dk_iret (st := []) hE hR dX7_at_22 ⟨_, rfl, (fun k_ j_ h_ => rfl), by omega⟩
    · skip
      refine dk_aload_n (pc' := 13) hE dX7_at_12 rfl rfl rfl ?_
      refine gf_7_0 (pc' := 16) (w := 2) hE fl_X7_11 dX7_at_13 is_1 rfl rfl ?_
      refine dk_iload_n (pc' := 17) hE dX7_at_16 rfl rfl rfl ?_
      refine ga_20 (pc' := 18) hE dX7_at_17 is_2 (by omega) rfl (fun v4 hv4 htv4 hbv4 => ?_)
      refine dk_goto (tgt := 22) hE dX7_at_18 (by decide) ?_
      exact dk_iret (st := []) hE hR dX7_at_22 ⟨_, rfl, (fun k_ j_ h_ => rfl), by omega⟩
set_option maxHeartbeats 4000000 in
set_option maxRecDepth 20000 in
theorem ct_X7_put (l : Launch) (G : dkG) (hGd : dk_Gd G) (f : Int) : dk_Ct l G dk_Ty yX7_put cX7_put 3 (none) 1 190 190 (fun av σ => av = [(4, 1), (0, f)]) (fun _ σ r_ σ' => r_ = none ∧ (∀ k_ j_ : Int, ¬ ((k_ = 1 ∧ j_ = 1) ∨ k_ = 2) → σ' k_ j_ = σ k_ j_) ∧ (True)) := by
  refine dk_enter hGd (by decide) (fun av σ hpre hok => ?_)
  subst hpre
  refine ⟨Nat.le_of_ble_eq_true rfl, fun E hE hR _ => ?_⟩
  have hi_f : dk_i32 f := dk_oki (hok _ (by simp))
  show dk_PJ E 0 [(4, 1), (0, f), (9, 0)] [] 190 σ
  refine dk_bipush (pc' := 2) hE dX7_put_0 (by decide) rfl ?_
  refine dk_istore_n (pc' := 3) (ls' := [(4, 1), (0, f), (0, 24)]) hE dX7_put_2 rfl rfl (by decide) rfl ?_
  have lp3 : ∀ (N_ : Nat) (sh : Int) (σ3c : dkS), (sh + 9).toNat < N_ → ((∀ k_ j_ : Int, ¬ ((k_ = 1 ∧ j_ = 1) ∨ k_ = 2) → σ3c k_ j_ = σ k_ j_)) → (-8 ≤ sh ∧ sh ≤ 24) → dk_PJ E 3 [(4, 1), (0, f), (0, sh)] [] 190 σ3c := by
    intro N3
    induction N3 with
    | zero => intro sh σ3c hm; exact absurd hm (Nat.not_lt_zero _)
    | succ N3 ih3 =>
      intro sh σ3c hm3 hF3 hsh
      refine dk_iload_n (pc' := 4) hE dX7_put_3 rfl rfl rfl ?_
      refine dk_if_lt (tgt := 46) (pc' := 7) hE dX7_put_4 (by decide) rfl (fun hc1 => ?_) (fun hc1 => ?_)
      · skip
        exact dk_vret (st := []) hE hR dX7_put_46 ⟨rfl, (fun k_ j_ h_ => by rw [hF3 k_ j_ (fun w_ => h_ (w_.elim (fun x0_ => Or.inl (x0_)) (fun y0_ => Or.inr (y0_))))]), trivial⟩
      · skip
        refine dk_aload_n (pc' := 8) hE dX7_put_7 rfl rfl rfl ?_
        refine gf_7_1 (pc' := 11) hE fl_X7_15 dX7_put_8 is_1 rfl (fun v2 hv2 htv2 hbv2 => ?_)
        refine dk_sipush (pc' := 14) hE dX7_put_11 (by decide) rfl ?_
        refine dk_icmp_ge (tgt := 46) (pc' := 17) hE dX7_put_14 (by decide) rfl (fun hc3 => ?_) (fun hc3 => ?_)
        · skip
          exact dk_vret (st := []) hE hR dX7_put_46 ⟨rfl, (fun k_ j_ h_ => by rw [hF3 k_ j_ (fun w_ => h_ (w_.elim (fun x0_ => Or.inl (x0_)) (fun y0_ => Or.inr (y0_))))]), trivial⟩
        · skip
          refine dk_aload_n (pc' := 18) hE dX7_put_17 rfl rfl rfl ?_
          refine gf_7_0 (pc' := 21) (w := 2) hE fl_X7_11 dX7_put_18 is_1 rfl rfl ?_
          refine dk_aload_n (pc' := 22) hE dX7_put_21 rfl rfl rfl ?_
          refine gf_7_1 (pc' := 25) hE fl_X7_15 dX7_put_22 is_1 rfl (fun v4 hv4 htv4 hbv4 => ?_)
          have hq4 : v2 = v4 := (show v4 = v2 by rw [hv4, hv2]).symm
          subst hq4
          clear htv4 hbv4
          refine dk_iload_n (pc' := 26) hE dX7_put_25 rfl rfl rfl ?_
          refine dk_iload_n (pc' := 27) hE dX7_put_26 rfl rfl rfl ?_
          refine dk_ishr (pc' := 28) hE dX7_put_27 rfl (fun v5 hv5 ev5 => ?_)
          refine dk_i2b (pc' := 29) hE dX7_put_28 rfl (fun v6 hv6 ev6 => ?_)
          have hbv6 := dk_b_in ev6
          refine pa_20 (pc' := 30) hE dX7_put_29 is_2 (by omega) (by omega) trivial rfl (fun σ7 eσ7 => ?_)
          refine dk_aload_n (pc' := 31) hE dX7_put_30 rfl rfl rfl ?_
          refine dk_dup (pc' := 32) hE dX7_put_31 (show (4 : Nat) ≠ 3 by decide) rfl ?_
          refine gf_7_1 (pc' := 35) hE fl_X7_15 dX7_put_32 is_1 rfl (fun v8 hv8 htv8 hbv8 => ?_)
          have hq8 : v2 = v8 := (show v8 = v2 by rw [hv8, eσ7, dk_up_n (show ¬ (1 = 2 ∧ 1 = v2) by omega), hv4]).symm
          subst hq8
          clear htv8 hbv8
          refine dk_iconst (pc' := 36) hE dX7_put_35 (by decide) rfl ?_
          obtain ⟨v9, hv9⟩ : ∃ z : Int, z = v2 + 1 := ⟨_, rfl⟩
          refine dk_iadd (pc' := 37) hE dX7_put_36 hv9.symm (by omega) rfl ?_
          refine pf_7_1 (pc' := 40) hE fl_X7_15 dX7_put_37 is_1 (by omega) rfl (fun σ10 eσ10 => ?_)
          obtain ⟨v11, hv11⟩ : ∃ z : Int, z = sh + (-8) := ⟨_, rfl⟩
          refine dk_iinc (pc' := 43) (ls' := [(4, 1), (0, f), (0, v11)]) hE dX7_put_40 rfl hv11.symm (by omega) rfl (by decide) rfl ?_
          refine dk_goto (tgt := 3) hE dX7_put_43 (by decide) ?_
          exact ih3 v11 σ10 (by omega) (fun k_ j_ h_ => by rw [eσ10, dk_up_n (show ¬ (k_ = 1 ∧ j_ = 1) from fun q_ => h_ (Or.inl (q_))), eσ7, dk_up_n (show ¬ (k_ = 2 ∧ j_ = v2) from fun q_ => h_ (Or.inr (q_.1))), hF3 k_ j_ (fun w_ => h_ (w_.elim (fun x0_ => Or.inl (x0_)) (fun y0_ => Or.inr (y0_))))]) (by omega)
  exact lp3 _ 24 σ (Nat.lt_succ_self _) (fun k_ j_ h_ => rfl) (by omega)
set_option maxHeartbeats 4000000 in
set_option maxRecDepth 20000 in
theorem ct_X10_isDay (l : Launch) (G : dkG) (hGd : dk_Gd G) (a : Int) : dk_Ct l G dk_Ty yX10_isDay cX10_isDay 1 (some .boolean) 1 190 190 (fun av σ => av = [(0, a)]) (fun _ σ r_ σ' => ∃ z : Int, r_ = some (0, z) ∧ (∀ k_ j_ : Int, ¬ (False) → σ' k_ j_ = σ k_ j_) ∧ (z = 1 ∧ 0 ≤ a ∧ a ≤ 999 ∨ z = 0 ∧ (a < 0 ∨ 999 < a))) := by
  refine dk_enter hGd (by decide) (fun av σ hpre hok => ?_)
  subst hpre
  refine ⟨Nat.le_of_ble_eq_true rfl, fun E hE hR _ => ?_⟩
  have hi_a : dk_i32 a := dk_oki (hok _ (by simp))
  show dk_PJ E 0 [(0, a)] [] 190 σ
  refine dk_iload_n (pc' := 1) hE dX10_isDay_0 rfl rfl rfl ?_
  refine dk_if_lt (tgt := 15) (pc' := 4) hE dX10_isDay_1 (by decide) rfl (fun hc1 => ?_) (fun hc1 => ?_)
  · skip
    refine dk_iconst (pc' := 16) hE dX10_isDay_15 (by decide) rfl ?_
    exact dk_zret (st := []) hE hR dX10_isDay_16 (by omega) ⟨_, rfl, (fun k_ j_ h_ => rfl), by omega⟩
  · skip
    refine dk_iload_n (pc' := 5) hE dX10_isDay_4 rfl rfl rfl ?_
    refine dk_sipush (pc' := 8) hE dX10_isDay_5 (by decide) rfl ?_
    refine dk_icmp_gt (tgt := 15) (pc' := 11) hE dX10_isDay_8 (by decide) rfl (fun hc2 => ?_) (fun hc2 => ?_)
    · skip
      refine dk_iconst (pc' := 16) hE dX10_isDay_15 (by decide) rfl ?_
      exact dk_zret (st := []) hE hR dX10_isDay_16 (by omega) ⟨_, rfl, (fun k_ j_ h_ => rfl), by omega⟩
    · skip
      refine dk_iconst (pc' := 12) hE dX10_isDay_11 (by decide) rfl ?_
      refine dk_goto (tgt := 16) hE dX10_isDay_12 (by decide) ?_
      exact dk_zret (st := []) hE hR dX10_isDay_16 (by omega) ⟨_, rfl, (fun k_ j_ h_ => rfl), by omega⟩
set_option maxHeartbeats 4000000 in
set_option maxRecDepth 20000 in
theorem ct_X10_isReader (l : Launch) (G : dkG) (hGd : dk_Gd G) (a : Int) : dk_Ct l G dk_Ty yX10_isReader cX10_isReader 1 (some .boolean) 1 190 190 (fun av σ => av = [(0, a)]) (fun _ σ r_ σ' => ∃ z : Int, r_ = some (0, z) ∧ (∀ k_ j_ : Int, ¬ (False) → σ' k_ j_ = σ k_ j_) ∧ (z = 1 ∧ 0 ≤ a ∧ a ≤ 1 ∨ z = 0 ∧ (a < 0 ∨ 1 < a))) := by
  refine dk_enter hGd (by decide) (fun av σ hpre hok => ?_)
  subst hpre
  refine ⟨Nat.le_of_ble_eq_true rfl, fun E hE hR _ => ?_⟩
  have hi_a : dk_i32 a := dk_oki (hok _ (by simp))
  show dk_PJ E 0 [(0, a)] [] 190 σ
  refine dk_iload_n (pc' := 1) hE dX10_isReader_0 rfl rfl rfl ?_
  refine dk_if_lt (tgt := 13) (pc' := 4) hE dX10_isReader_1 (by decide) rfl (fun hc1 => ?_) (fun hc1 => ?_)
  · skip
    refine dk_iconst (pc' := 14) hE dX10_isReader_13 (by decide) rfl ?_
    exact dk_zret (st := []) hE hR dX10_isReader_14 (by omega) ⟨_, rfl, (fun k_ j_ h_ => rfl), by omega⟩
  · skip
    refine dk_iload_n (pc' := 5) hE dX10_isReader_4 rfl rfl rfl ?_
    refine dk_iconst (pc' := 6) hE dX10_isReader_5 (by decide) rfl ?_
    refine dk_icmp_ge (tgt := 13) (pc' := 9) hE dX10_isReader_6 (by decide) rfl (fun hc2 => ?_) (fun hc2 => ?_)
    · skip
      refine dk_iconst (pc' := 14) hE dX10_isReader_13 (by decide) rfl ?_
      exact dk_zret (st := []) hE hR dX10_isReader_14 (by omega) ⟨_, rfl, (fun k_ j_ h_ => rfl), by omega⟩
    · skip
      refine dk_iconst (pc' := 10) hE dX10_isReader_9 (by decide) rfl ?_
      refine dk_goto (tgt := 14) hE dX10_isReader_10 (by decide) ?_
      exact dk_zret (st := []) hE hR dX10_isReader_14 (by omega) ⟨_, rfl, (fun k_ j_ h_ => rfl), by omega⟩
set_option maxHeartbeats 4000000 in
set_option maxRecDepth 20000 in
theorem ct_X10_isStep (l : Launch) (G : dkG) (hGd : dk_Gd G) (a : Int) : dk_Ct l G dk_Ty yX10_isStep cX10_isStep 1 (some .boolean) 1 190 190 (fun av σ => av = [(0, a)]) (fun _ σ r_ σ' => ∃ z : Int, r_ = some (0, z) ∧ (∀ k_ j_ : Int, ¬ (False) → σ' k_ j_ = σ k_ j_) ∧ (z = 1 ∧ 0 ≤ a ∧ a ≤ 5 ∨ z = 0 ∧ (a < 0 ∨ 5 < a))) := by
  refine dk_enter hGd (by decide) (fun av σ hpre hok => ?_)
  subst hpre
  refine ⟨Nat.le_of_ble_eq_true rfl, fun E hE hR _ => ?_⟩
  have hi_a : dk_i32 a := dk_oki (hok _ (by simp))
  show dk_PJ E 0 [(0, a)] [] 190 σ
  refine dk_iload_n (pc' := 1) hE dX10_isStep_0 rfl rfl rfl ?_
  refine dk_if_lt (tgt := 14) (pc' := 4) hE dX10_isStep_1 (by decide) rfl (fun hc1 => ?_) (fun hc1 => ?_)
  · skip
    refine dk_iconst (pc' := 15) hE dX10_isStep_14 (by decide) rfl ?_
    exact dk_zret (st := []) hE hR dX10_isStep_15 (by omega) ⟨_, rfl, (fun k_ j_ h_ => rfl), by omega⟩
  · skip
    refine dk_iload_n (pc' := 5) hE dX10_isStep_4 rfl rfl rfl ?_
    refine dk_bipush (pc' := 7) hE dX10_isStep_5 (by decide) rfl ?_
    refine dk_icmp_ge (tgt := 14) (pc' := 10) hE dX10_isStep_7 (by decide) rfl (fun hc2 => ?_) (fun hc2 => ?_)
    · skip
      refine dk_iconst (pc' := 15) hE dX10_isStep_14 (by decide) rfl ?_
      exact dk_zret (st := []) hE hR dX10_isStep_15 (by omega) ⟨_, rfl, (fun k_ j_ h_ => rfl), by omega⟩
    · skip
      refine dk_iconst (pc' := 11) hE dX10_isStep_10 (by decide) rfl ?_
      refine dk_goto (tgt := 15) hE dX10_isStep_11 (by decide) ?_
      exact dk_zret (st := []) hE hR dX10_isStep_15 (by omega) ⟨_, rfl, (fun k_ j_ h_ => rfl), by omega⟩
set_option maxHeartbeats 4000000 in
set_option maxRecDepth 20000 in
theorem ct_X10_isWidth (l : Launch) (G : dkG) (hGd : dk_Gd G) (a : Int) : dk_Ct l G dk_Ty yX10_isWidth cX10_isWidth 1 (some .boolean) 1 190 190 (fun av σ => av = [(0, a)]) (fun _ σ r_ σ' => ∃ z : Int, r_ = some (0, z) ∧ (∀ k_ j_ : Int, ¬ (False) → σ' k_ j_ = σ k_ j_) ∧ (z = 1 ∧ 1 ≤ a ∧ a ≤ 20 ∨ z = 0 ∧ (a < 1 ∨ 20 < a))) := by
  refine dk_enter hGd (by decide) (fun av σ hpre hok => ?_)
  subst hpre
  refine ⟨Nat.le_of_ble_eq_true rfl, fun E hE hR _ => ?_⟩
  have hi_a : dk_i32 a := dk_oki (hok _ (by simp))
  show dk_PJ E 0 [(0, a)] [] 190 σ
  refine dk_iload_n (pc' := 1) hE dX10_isWidth_0 rfl rfl rfl ?_
  refine dk_iconst (pc' := 2) hE dX10_isWidth_1 (by decide) rfl ?_
  refine dk_icmp_lt (tgt := 15) (pc' := 5) hE dX10_isWidth_2 (by decide) rfl (fun hc1 => ?_) (fun hc1 => ?_)
  · skip
    refine dk_iconst (pc' := 16) hE dX10_isWidth_15 (by decide) rfl ?_
    exact dk_zret (st := []) hE hR dX10_isWidth_16 (by omega) ⟨_, rfl, (fun k_ j_ h_ => rfl), by omega⟩
  · skip
    refine dk_iload_n (pc' := 6) hE dX10_isWidth_5 rfl rfl rfl ?_
    refine dk_bipush (pc' := 8) hE dX10_isWidth_6 (by decide) rfl ?_
    refine dk_icmp_gt (tgt := 15) (pc' := 11) hE dX10_isWidth_8 (by decide) rfl (fun hc2 => ?_) (fun hc2 => ?_)
    · skip
      refine dk_iconst (pc' := 16) hE dX10_isWidth_15 (by decide) rfl ?_
      exact dk_zret (st := []) hE hR dX10_isWidth_16 (by omega) ⟨_, rfl, (fun k_ j_ h_ => rfl), by omega⟩
    · skip
      refine dk_iconst (pc' := 12) hE dX10_isWidth_11 (by decide) rfl ?_
      refine dk_goto (tgt := 16) hE dX10_isWidth_12 (by decide) ?_
      exact dk_zret (st := []) hE hR dX10_isWidth_16 (by omega) ⟨_, rfl, (fun k_ j_ h_ => rfl), by omega⟩
set_option maxHeartbeats 4000000 in
set_option maxRecDepth 20000 in
theorem ct_X10_isBody (l : Launch) (G : dkG) (hGd : dk_Gd G) (a : Int) : dk_Ct l G dk_Ty yX10_isBody cX10_isBody 2 (some .boolean) 1 190 190 (fun av σ => av = [(4, 0), (0, a)]) (fun _ σ r_ σ' => ∃ z : Int, r_ = some (0, z) ∧ (∀ k_ j_ : Int, ¬ (False) → σ' k_ j_ = σ k_ j_) ∧ (z = 1 ∧ 0 ≤ a ∧ a < σ 0 12 ∧ σ 0 12 ≤ 10 ∨ z = 0)) := by
  refine dk_enter hGd (by decide) (fun av σ hpre hok => ?_)
  subst hpre
  refine ⟨Nat.le_of_ble_eq_true rfl, fun E hE hR _ => ?_⟩
  have hi_a : dk_i32 a := dk_oki (hok _ (by simp))
  show dk_PJ E 0 [(4, 0), (0, a)] [] 190 σ
  refine dk_iload_n (pc' := 1) hE dX10_isBody_0 rfl rfl rfl ?_
  refine dk_if_lt (tgt := 16) (pc' := 4) hE dX10_isBody_1 (by decide) rfl (fun hc1 => ?_) (fun hc1 => ?_)
  · skip
    refine dk_iconst (pc' := 17) hE dX10_isBody_16 (by decide) rfl ?_
    exact dk_zret (st := []) hE hR dX10_isBody_17 (by omega) ⟨_, rfl, (fun k_ j_ h_ => rfl), by omega⟩
  · skip
    refine dk_iload_n (pc' := 5) hE dX10_isBody_4 rfl rfl rfl ?_
    refine dk_aload_n (pc' := 6) hE dX10_isBody_5 rfl rfl rfl ?_
    refine gf_10_12 (pc' := 9) hE fl_X10_93 dX10_isBody_6 is_0 rfl (fun v2 hv2 htv2 hbv2 => ?_)
    refine dk_icmp_ge (tgt := 16) (pc' := 12) hE dX10_isBody_9 (by decide) rfl (fun hc3 => ?_) (fun hc3 => ?_)
    · skip
      refine dk_iconst (pc' := 17) hE dX10_isBody_16 (by decide) rfl ?_
      exact dk_zret (st := []) hE hR dX10_isBody_17 (by omega) ⟨_, rfl, (fun k_ j_ h_ => rfl), by omega⟩
    · skip
      refine dk_iconst (pc' := 13) hE dX10_isBody_12 (by decide) rfl ?_
      refine dk_goto (tgt := 17) hE dX10_isBody_13 (by decide) ?_
      exact dk_zret (st := []) hE hR dX10_isBody_17 (by omega) ⟨_, rfl, (fun k_ j_ h_ => rfl), by omega⟩
set_option maxHeartbeats 4000000 in
set_option maxRecDepth 20000 in
theorem ct_X10_end (l : Launch) (G : dkG) (hGd : dk_Gd G) (a : Int) : dk_Ct l G dk_Ty yX10_end cX10_end 2 (some .int) 1 190 190 (fun av σ => av = [(4, 0), (0, a)]) (fun _ σ r_ σ' => ∃ z : Int, r_ = some (0, z) ∧ (∀ k_ j_ : Int, ¬ ((k_ = 1 ∧ j_ = 1)) → σ' k_ j_ = σ k_ j_) ∧ (True)) := by
  refine dk_enter hGd (by decide) (fun av σ hpre hok => ?_)
  subst hpre
  refine ⟨Nat.le_of_ble_eq_true rfl, fun E hE hR _ => ?_⟩
  have hi_a : dk_i32 a := dk_oki (hok _ (by simp))
  show dk_PJ E 0 [(4, 0), (0, a)] [] 190 σ
  refine dk_iload_n (pc' := 1) hE dX10_end_0 rfl rfl rfl ?_
  refine dk_if_lt (tgt := 15) (pc' := 4) hE dX10_end_1 (by decide) rfl (fun hc1 => ?_) (fun hc1 => ?_)
  · skip
    refine dk_iconst (pc' := 16) hE dX10_end_15 (by decide) rfl ?_
    exact dk_iret (st := []) hE hR dX10_end_16 ⟨_, rfl, (fun k_ j_ h_ => rfl), trivial⟩
  · skip
    refine dk_iload_n (pc' := 5) hE dX10_end_4 rfl rfl rfl ?_
    refine dk_aload_n (pc' := 6) hE dX10_end_5 rfl rfl rfl ?_
    refine gf_10_0 (pc' := 9) (w := 1) hE fl_X10_10 dX10_end_6 is_0 rfl rfl ?_
    refine gf_7_1 (pc' := 12) hE fl_X10_102 dX10_end_9 is_1 rfl (fun v2 hv2 htv2 hbv2 => ?_)
    refine dk_icmp_le (tgt := 17) (pc' := 15) hE dX10_end_12 (by decide) rfl (fun hc3 => ?_) (fun hc3 => ?_)
    · skip
      refine dk_aload_n (pc' := 18) hE dX10_end_17 rfl rfl rfl ?_
      refine gf_10_0 (pc' := 21) (w := 1) hE fl_X10_10 dX10_end_18 is_0 rfl rfl ?_
      refine dk_iload_n (pc' := 22) hE dX10_end_21 rfl rfl rfl ?_
      refine pf_7_1 (pc' := 25) hE fl_X10_102 dX10_end_22 is_1 (by omega) rfl (fun σ4 eσ4 => ?_)
      refine dk_iload_n (pc' := 26) hE dX10_end_25 rfl rfl rfl ?_
      exact dk_iret (st := []) hE hR dX10_end_26 ⟨_, rfl, (fun k_ j_ h_ => by rw [eσ4, dk_up_n (show ¬ (k_ = 1 ∧ j_ = 1) from fun q_ => h_ (q_))]), trivial⟩
    · skip
      refine dk_iconst (pc' := 16) hE dX10_end_15 (by decide) rfl ?_
      exact dk_iret (st := []) hE hR dX10_end_16 ⟨_, rfl, (fun k_ j_ h_ => rfl), trivial⟩
set_option maxHeartbeats 4000000 in
set_option maxRecDepth 20000 in
theorem ct_X10_feed (l : Launch) (G : dkG) (hGd : dk_Gd G) (a b c d e : Int) : dk_Ct l G dk_Ty yX10_feed cX10_feed 6 (some .int) 2 190 190 (fun av σ => av = [(4, 0), (0, a), (0, b), (0, c), (0, d), (0, e)]) (fun _ σ r_ σ' => ∃ z : Int, r_ = some (0, z) ∧ (∀ k_ j_ : Int, ¬ ((k_ = 1 ∧ j_ = 1) ∨ k_ = 2) → σ' k_ j_ = σ k_ j_) ∧ (True)) := by
  refine dk_enter hGd (by decide) (fun av σ hpre hok => ?_)
  subst hpre
  refine ⟨Nat.le_of_ble_eq_true rfl, fun E hE hR _ => ?_⟩
  have hi_a : dk_i32 a := dk_oki (hok _ (by simp))
  have hi_b : dk_i32 b := dk_oki (hok _ (by simp))
  have hi_c : dk_i32 c := dk_oki (hok _ (by simp))
  have hi_d : dk_i32 d := dk_oki (hok _ (by simp))
  have hi_e : dk_i32 e := dk_oki (hok _ (by simp))
  show dk_PJ E 0 [(4, 0), (0, a), (0, b), (0, c), (0, d), (0, e)] [] 190 σ
  refine dk_aload_n (pc' := 1) hE dX10_feed_0 rfl rfl rfl ?_
  refine gf_10_0 (pc' := 4) (w := 1) hE fl_X10_10 dX10_feed_1 is_0 rfl rfl ?_
  refine gf_7_1 (pc' := 7) hE fl_X10_102 dX10_feed_4 is_1 rfl (fun v1 hv1 htv1 hbv1 => ?_)
  refine dk_bipush (pc' := 9) hE dX10_feed_7 (by decide) rfl ?_
  obtain ⟨v2, hv2⟩ : ∃ z : Int, z = v1 + 20 := ⟨_, rfl⟩
  refine dk_iadd (pc' := 10) hE dX10_feed_9 hv2.symm (by omega) rfl ?_
  refine dk_sipush (pc' := 13) hE dX10_feed_10 (by decide) rfl ?_
  refine dk_icmp_le (tgt := 18) (pc' := 16) hE dX10_feed_13 (by decide) rfl (fun hc3 => ?_) (fun hc3 => ?_)
  · skip
    refine dk_aload_n (pc' := 19) hE dX10_feed_18 rfl rfl rfl ?_
    refine gf_10_0 (pc' := 22) (w := 1) hE fl_X10_10 dX10_feed_19 is_0 rfl rfl ?_
    refine dk_iload_n (pc' := 23) hE dX10_feed_22 rfl rfl rfl ?_
    refine dk_cV (pc' := 26) (as := [(0, a)]) hE lk_X10_105 (ct_X7_put l G hGd a) dX10_feed_23 rfl is_1 rfl (by decide) (Nat.le_of_ble_eq_true rfl) rfl rfl (fun r5 σ4 hr5 _ => ?_)
    obtain ⟨rfl, hfσ4, hpr5⟩ := hr5
    refine dk_aload_n (pc' := 27) hE dX10_feed_26 rfl rfl rfl ?_
    refine gf_10_0 (pc' := 30) (w := 1) hE fl_X10_10 dX10_feed_27 is_0 rfl rfl ?_
    refine dk_iload_n (pc' := 31) hE dX10_feed_30 rfl rfl rfl ?_
    refine dk_cV (pc' := 34) (as := [(0, b)]) hE lk_X10_105 (ct_X7_put l G hGd b) dX10_feed_31 rfl is_1 rfl (by decide) (Nat.le_of_ble_eq_true rfl) rfl rfl (fun r7 σ6 hr7 _ => ?_)
    obtain ⟨rfl, hfσ6, hpr7⟩ := hr7
    refine dk_aload_n (pc' := 35) hE dX10_feed_34 rfl rfl rfl ?_
    refine gf_10_0 (pc' := 38) (w := 1) hE fl_X10_10 dX10_feed_35 is_0 rfl rfl ?_
    refine dk_iload_n (pc' := 39) hE dX10_feed_38 rfl rfl rfl ?_
    refine dk_cV (pc' := 42) (as := [(0, c)]) hE lk_X10_105 (ct_X7_put l G hGd c) dX10_feed_39 rfl is_1 rfl (by decide) (Nat.le_of_ble_eq_true rfl) rfl rfl (fun r9 σ8 hr9 _ => ?_)
    obtain ⟨rfl, hfσ8, hpr9⟩ := hr9
    refine dk_aload_n (pc' := 43) hE dX10_feed_42 rfl rfl rfl ?_
    refine gf_10_0 (pc' := 46) (w := 1) hE fl_X10_10 dX10_feed_43 is_0 rfl rfl ?_
    refine dk_iload (pc' := 48) hE dX10_feed_46 rfl rfl ?_
    refine dk_cV (pc' := 51) (as := [(0, d)]) hE lk_X10_105 (ct_X7_put l G hGd d) dX10_feed_48 rfl is_1 rfl (by decide) (Nat.le_of_ble_eq_true rfl) rfl rfl (fun r11 σ10 hr11 _ => ?_)
    obtain ⟨rfl, hfσ10, hpr11⟩ := hr11
    refine dk_aload_n (pc' := 52) hE dX10_feed_51 rfl rfl rfl ?_
    refine gf_10_0 (pc' := 55) (w := 1) hE fl_X10_10 dX10_feed_52 is_0 rfl rfl ?_
    refine dk_iload (pc' := 57) hE dX10_feed_55 rfl rfl ?_
    refine dk_cV (pc' := 60) (as := [(0, e)]) hE lk_X10_105 (ct_X7_put l G hGd e) dX10_feed_57 rfl is_1 rfl (by decide) (Nat.le_of_ble_eq_true rfl) rfl rfl (fun r13 σ12 hr13 _ => ?_)
    obtain ⟨rfl, hfσ12, hpr13⟩ := hr13
    refine dk_aload_n (pc' := 61) hE dX10_feed_60 rfl rfl rfl ?_
    refine gf_10_0 (pc' := 64) (w := 1) hE fl_X10_10 dX10_feed_61 is_0 rfl rfl ?_
    refine gf_7_1 (pc' := 67) hE fl_X10_102 dX10_feed_64 is_1 rfl (fun v14 hv14 htv14 hbv14 => ?_)
    exact dk_iret (st := []) hE hR dX10_feed_67 ⟨_, rfl, (fun k_ j_ h_ => by rw [hfσ12 k_ j_ (fun w_ => h_ (w_.elim (fun x0_ => Or.inl (x0_)) (fun y0_ => Or.inr (y0_)))), hfσ10 k_ j_ (fun w_ => h_ (w_.elim (fun x0_ => Or.inl (x0_)) (fun y0_ => Or.inr (y0_)))), hfσ8 k_ j_ (fun w_ => h_ (w_.elim (fun x0_ => Or.inl (x0_)) (fun y0_ => Or.inr (y0_)))), hfσ6 k_ j_ (fun w_ => h_ (w_.elim (fun x0_ => Or.inl (x0_)) (fun y0_ => Or.inr (y0_)))), hfσ4 k_ j_ (fun w_ => h_ (w_.elim (fun x0_ => Or.inl (x0_)) (fun y0_ => Or.inr (y0_))))]), trivial⟩
  · skip
    refine dk_iconst (pc' := 17) hE dX10_feed_16 (by decide) rfl ?_
    exact dk_iret (st := []) hE hR dX10_feed_17 ⟨_, rfl, (fun k_ j_ h_ => rfl), trivial⟩
set_option maxHeartbeats 4000000 in
set_option maxRecDepth 20000 in
theorem ct_X10_rooms (l : Launch) (G : dkG) (hGd : dk_Gd G) (a : Int) : dk_Ct l G dk_Ty yX10_rooms cX10_rooms 2 (some .boolean) 1 190 190 (fun av σ => av = [(4, 0), (0, a)]) (fun _ σ r_ σ' => ∃ z : Int, r_ = some (0, z) ∧ (∀ k_ j_ : Int, ¬ ((k_ = 88 ∧ j_ = 7)) → σ' k_ j_ = σ k_ j_) ∧ (z = 1 ∧ 1 ≤ a ∧ a ≤ 5 ∨ z = 0 ∧ (a < 1 ∨ 5 < a))) := by
  refine dk_enter hGd (by decide) (fun av σ hpre hok => ?_)
  subst hpre
  refine ⟨Nat.le_of_ble_eq_true rfl, fun E hE hR _ => ?_⟩
  have hi_a : dk_i32 a := dk_oki (hok _ (by simp))
  show dk_PJ E 0 [(4, 0), (0, a)] [] 190 σ
  refine dk_iload_n (pc' := 1) hE dX10_rooms_0 rfl rfl rfl ?_
  refine dk_iconst (pc' := 2) hE dX10_rooms_1 (by decide) rfl ?_
  refine dk_icmp_lt (tgt := 10) (pc' := 5) hE dX10_rooms_2 (by decide) rfl (fun hc1 => ?_) (fun hc1 => ?_)
  · skip
    refine dk_iconst (pc' := 11) hE dX10_rooms_10 (by decide) rfl ?_
    exact dk_zret (st := []) hE hR dX10_rooms_11 (by omega) ⟨_, rfl, (fun k_ j_ h_ => rfl), by omega⟩
  · skip
    refine dk_iload_n (pc' := 6) hE dX10_rooms_5 rfl rfl rfl ?_
    refine dk_iconst (pc' := 7) hE dX10_rooms_6 (by decide) rfl ?_
    refine dk_icmp_le (tgt := 12) (pc' := 10) hE dX10_rooms_7 (by decide) rfl (fun hc2 => ?_) (fun hc2 => ?_)
    · skip
      refine dk_aload_n (pc' := 13) hE dX10_rooms_12 rfl rfl rfl ?_
      refine gf_10_8 (pc' := 16) (w := 88) hE fl_X10_75 dX10_rooms_13 is_0 rfl rfl ?_
      refine dk_iload_n (pc' := 17) hE dX10_rooms_16 rfl rfl rfl ?_
      refine pf_8_7 (pc' := 20) hE fl_X10_287 dX10_rooms_17 is_88 (by omega) rfl (fun σ3 eσ3 => ?_)
      refine dk_iconst (pc' := 21) hE dX10_rooms_20 (by decide) rfl ?_
      exact dk_zret (st := []) hE hR dX10_rooms_21 (by omega) ⟨_, rfl, (fun k_ j_ h_ => by rw [eσ3, dk_up_n (show ¬ (k_ = 88 ∧ j_ = 7) from fun q_ => h_ (q_))]), by omega⟩
    · skip
      refine dk_iconst (pc' := 11) hE dX10_rooms_10 (by decide) rfl ?_
      exact dk_zret (st := []) hE hR dX10_rooms_11 (by omega) ⟨_, rfl, (fun k_ j_ h_ => rfl), by omega⟩
set_option maxHeartbeats 4000000 in
set_option maxRecDepth 20000 in
theorem ct_X10_body (l : Launch) (G : dkG) (hGd : dk_Gd G) : dk_Ct l G dk_Ty yX10_body cX10_body 1 (some .int) 1 190 190 (fun av σ => av = [(4, 0)]) (fun _ σ r_ σ' => ∃ z : Int, r_ = some (0, z) ∧ (∀ k_ j_ : Int, ¬ ((k_ = 0 ∧ j_ = 12)) → σ' k_ j_ = σ k_ j_) ∧ (True)) := by
  refine dk_enter hGd (by decide) (fun av σ hpre hok => ?_)
  subst hpre
  refine ⟨Nat.le_of_ble_eq_true rfl, fun E hE hR _ => ?_⟩
  show dk_PJ E 0 [(4, 0)] [] 190 σ
  refine dk_aload_n (pc' := 1) hE dX10_body_0 rfl rfl rfl ?_
  refine gf_10_12 (pc' := 4) hE fl_X10_93 dX10_body_1 is_0 rfl (fun v1 hv1 htv1 hbv1 => ?_)
  refine dk_bipush (pc' := 6) hE dX10_body_4 (by decide) rfl ?_
  refine dk_icmp_lt (tgt := 11) (pc' := 9) hE dX10_body_6 (by decide) rfl (fun hc2 => ?_) (fun hc2 => ?_)
  · skip
    refine dk_aload_n (pc' := 12) hE dX10_body_11 rfl rfl rfl ?_
    refine dk_dup (pc' := 13) hE dX10_body_12 (show (4 : Nat) ≠ 3 by decide) rfl ?_
    refine gf_10_12 (pc' := 16) hE fl_X10_93 dX10_body_13 is_0 rfl (fun v3 hv3 htv3 hbv3 => ?_)
    have hq3 : v1 = v3 := (show v3 = v1 by rw [hv3, hv1]).symm
    subst hq3
    clear htv3 hbv3
    refine dk_iconst (pc' := 17) hE dX10_body_16 (by decide) rfl ?_
    obtain ⟨v4, hv4⟩ : ∃ z : Int, z = v1 + 1 := ⟨_, rfl⟩
    refine dk_iadd (pc' := 18) hE dX10_body_17 hv4.symm (by omega) rfl ?_
    refine pf_10_12 (pc' := 21) hE fl_X10_93 dX10_body_18 is_0 (by omega) rfl (fun σ5 eσ5 => ?_)
    refine dk_aload_n (pc' := 22) hE dX10_body_21 rfl rfl rfl ?_
    refine gf_10_12 (pc' := 25) hE fl_X10_93 dX10_body_22 is_0 rfl (fun v6 hv6 htv6 hbv6 => ?_)
    have hq6 : v4 = v6 := (show v6 = v4 by rw [hv6, eσ5, dk_up_s]).symm
    subst hq6
    clear htv6 hbv6
    refine dk_iconst (pc' := 26) hE dX10_body_25 (by decide) rfl ?_
    obtain ⟨v7, hv7⟩ : ∃ z : Int, z = v4 - 1 := ⟨_, rfl⟩
    refine dk_isub (pc' := 27) hE dX10_body_26 hv7.symm (by omega) rfl ?_
    exact dk_iret (st := []) hE hR dX10_body_27 ⟨_, rfl, (fun k_ j_ h_ => by rw [eσ5, dk_up_n (show ¬ (k_ = 0 ∧ j_ = 12) from fun q_ => h_ (q_))]), trivial⟩
  · skip
    refine dk_iconst (pc' := 10) hE dX10_body_9 (by decide) rfl ?_
    exact dk_iret (st := []) hE hR dX10_body_10 ⟨_, rfl, (fun k_ j_ h_ => rfl), trivial⟩
set_option maxHeartbeats 4000000 in
set_option maxRecDepth 20000 in
theorem ct_X10_later (l : Launch) (G : dkG) (hGd : dk_Gd G) (a : Int) : dk_Ct l G dk_Ty yX10_later cX10_later 2 (some .int) 1 190 190 (fun av σ => av = [(4, 0), (0, a)]) (fun _ σ r_ σ' => ∃ z : Int, r_ = some (0, z) ∧ (∀ k_ j_ : Int, ¬ ((k_ = 37 ∧ j_ = 8)) → σ' k_ j_ = σ k_ j_) ∧ (True)) := by
  refine dk_enter hGd (by decide) (fun av σ hpre hok => ?_)
  subst hpre
  refine ⟨Nat.le_of_ble_eq_true rfl, fun E hE hR _ => ?_⟩
  have hi_a : dk_i32 a := dk_oki (hok _ (by simp))
  show dk_PJ E 0 [(4, 0), (0, a)] [] 190 σ
  refine dk_iload_n (pc' := 1) hE dX10_later_0 rfl rfl rfl ?_
  refine dk_if_lt (tgt := 25) (pc' := 4) hE dX10_later_1 (by decide) rfl (fun hc1 => ?_) (fun hc1 => ?_)
  · skip
    refine dk_iconst (pc' := 26) hE dX10_later_25 (by decide) rfl ?_
    exact dk_iret (st := []) hE hR dX10_later_26 ⟨_, rfl, (fun k_ j_ h_ => rfl), trivial⟩
  · skip
    refine dk_iload_n (pc' := 5) hE dX10_later_4 rfl rfl rfl ?_
    refine dk_sipush (pc' := 8) hE dX10_later_5 (by decide) rfl ?_
    refine dk_icmp_gt (tgt := 25) (pc' := 11) hE dX10_later_8 (by decide) rfl (fun hc2 => ?_) (fun hc2 => ?_)
    · skip
      refine dk_iconst (pc' := 26) hE dX10_later_25 (by decide) rfl ?_
      exact dk_iret (st := []) hE hR dX10_later_26 ⟨_, rfl, (fun k_ j_ h_ => rfl), trivial⟩
    · skip
      refine dk_aload_n (pc' := 12) hE dX10_later_11 rfl rfl rfl ?_
      refine gf_10_5 (pc' := 15) (w := 37) hE fl_X10_54 dX10_later_12 is_0 rfl rfl ?_
      refine gf_1_8 (pc' := 18) hE fl_X10_206 dX10_later_15 is_37 rfl (fun v3 hv3 htv3 hbv3 => ?_)
      refine dk_iload_n (pc' := 19) hE dX10_later_18 rfl rfl rfl ?_
      obtain ⟨v4, hv4⟩ : ∃ z : Int, z = v3 + a := ⟨_, rfl⟩
      refine dk_iadd (pc' := 20) hE dX10_later_19 hv4.symm (by omega) rfl ?_
      refine dk_ldc (pc' := 22) hE dX10_later_20 cs_X10_209 (by decide) rfl ?_
      refine dk_icmp_le (tgt := 27) (pc' := 25) hE dX10_later_22 (by decide) rfl (fun hc5 => ?_) (fun hc5 => ?_)
      · skip
        refine dk_aload_n (pc' := 28) hE dX10_later_27 rfl rfl rfl ?_
        refine gf_10_5 (pc' := 31) (w := 37) hE fl_X10_54 dX10_later_28 is_0 rfl rfl ?_
        refine dk_dup (pc' := 32) hE dX10_later_31 (show (4 : Nat) ≠ 3 by decide) rfl ?_
        refine gf_1_8 (pc' := 35) hE fl_X10_206 dX10_later_32 is_37 rfl (fun v6 hv6 htv6 hbv6 => ?_)
        have hq6 : v3 = v6 := (show v6 = v3 by rw [hv6, hv3]).symm
        subst hq6
        clear htv6 hbv6
        refine dk_iload_n (pc' := 36) hE dX10_later_35 rfl rfl rfl ?_
        obtain ⟨v7, hv7⟩ : ∃ z : Int, z = v3 + a := ⟨_, rfl⟩
        refine dk_iadd (pc' := 37) hE dX10_later_36 hv7.symm (by omega) rfl ?_
        refine pf_1_8 (pc' := 40) hE fl_X10_206 dX10_later_37 is_37 (by omega) rfl (fun σ8 eσ8 => ?_)
        refine dk_aload_n (pc' := 41) hE dX10_later_40 rfl rfl rfl ?_
        refine gf_10_5 (pc' := 44) (w := 37) hE fl_X10_54 dX10_later_41 is_0 rfl rfl ?_
        refine gf_1_8 (pc' := 47) hE fl_X10_206 dX10_later_44 is_37 rfl (fun v9 hv9 htv9 hbv9 => ?_)
        have hq9 : v7 = v9 := (show v9 = v7 by rw [hv9, eσ8, dk_up_s]).symm
        subst hq9
        clear htv9 hbv9
        exact dk_iret (st := []) hE hR dX10_later_47 ⟨_, rfl, (fun k_ j_ h_ => by rw [eσ8, dk_up_n (show ¬ (k_ = 37 ∧ j_ = 8) from fun q_ => h_ (q_))]), trivial⟩
      · skip
        refine dk_iconst (pc' := 26) hE dX10_later_25 (by decide) rfl ?_
        exact dk_iret (st := []) hE hR dX10_later_26 ⟨_, rfl, (fun k_ j_ h_ => rfl), trivial⟩
set_option maxHeartbeats 4000000 in
set_option maxRecDepth 20000 in
theorem ct_X10_fault (l : Launch) (G : dkG) (hGd : dk_Gd G) (a : Int) : dk_Ct l G dk_Ty yX10_fault cX10_fault 2 (some .int) 1 190 190 (fun av σ => av = [(4, 0), (0, a)]) (fun _ σ r_ σ' => ∃ z : Int, r_ = some (0, z) ∧ (∀ k_ j_ : Int, ¬ (False) → σ' k_ j_ = σ k_ j_) ∧ (True)) := by
  refine dk_enter hGd (by decide) (fun av σ hpre hok => ?_)
  subst hpre
  refine ⟨Nat.le_of_ble_eq_true rfl, fun E hE hR _ => ?_⟩
  have hi_a : dk_i32 a := dk_oki (hok _ (by simp))
  show dk_PJ E 0 [(4, 0), (0, a)] [] 190 σ
  refine dk_iload_n (pc' := 1) hE dX10_fault_0 rfl rfl rfl ?_
  by_cases hc1_0 : a = 0
  · refine dk_lookup (tgt := 28) hE dX10_fault_1 (by decide) (off := 27) (by rw [hc1_0]; decide) (by decide) ?_
    refine dk_aload_n (pc' := 29) hE dX10_fault_28 rfl rfl rfl ?_
    refine gf_10_13 (pc' := 32) hE fl_X10_96 dX10_fault_29 is_0 rfl (fun v2 hv2 htv2 hbv2 => ?_)
    exact dk_iret (st := []) hE hR dX10_fault_32 ⟨_, rfl, (fun k_ j_ h_ => rfl), trivial⟩
  by_cases hc1_1 : a = 1
  · refine dk_lookup (tgt := 33) hE dX10_fault_1 (by decide) (off := 32) (by rw [hc1_1]; decide) (by decide) ?_
    refine dk_aload_n (pc' := 34) hE dX10_fault_33 rfl rfl rfl ?_
    refine gf_10_14 (pc' := 37) hE fl_X10_99 dX10_fault_34 is_0 rfl (fun v3 hv3 htv3 hbv3 => ?_)
    exact dk_iret (st := []) hE hR dX10_fault_37 ⟨_, rfl, (fun k_ j_ h_ => rfl), trivial⟩
  refine dk_lookup (tgt := 38) hE dX10_fault_1 (by decide) (off := 37) (by simp [dk_sw, hc1_0, hc1_1]) (by decide) ?_
  refine dk_iconst (pc' := 39) hE dX10_fault_38 (by decide) rfl ?_
  exact dk_iret (st := []) hE hR dX10_fault_39 ⟨_, rfl, (fun k_ j_ h_ => rfl), trivial⟩
