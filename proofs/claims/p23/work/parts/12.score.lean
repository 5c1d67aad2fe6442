set_option maxHeartbeats 4000000 in
set_option maxRecDepth 20000 in
theorem ct_X4_clear (l : Launch) (G : dkG) (hGd : dk_Gd G) (s : Int) : dk_Ct l G dk_Ty yX4_clear cX4_clear 1 (none) 1 190 190 (fun av σ => av = [(4, s)] ∧ (dk_sc s)) (fun _ σ r_ σ' => r_ = none ∧ (∀ k_ j_ : Int, ¬ ((k_ = s ∧ j_ = 11) ∨ (k_ = s ∧ j_ = 12) ∨ (k_ = s ∧ j_ = 13) ∨ (k_ = s ∧ j_ = 14) ∨ (k_ = s ∧ j_ = 15) ∨ (k_ = s ∧ j_ = 16)) → σ' k_ j_ = σ k_ j_) ∧ (σ' s 11 = 0 ∧ σ' s 12 = 0)) := by
  refine dk_enter hGd (by decide) (fun av σ hpre hok => ?_)
  obtain ⟨rfl, hs⟩ := hpre
  refine ⟨Nat.le_of_ble_eq_true rfl, fun E hE hR _ => ?_⟩
  show dk_PJ E 0 [(4, s)] [] 190 σ
  refine dk_aload_n (pc' := 1) hE dX4_clear_0 rfl rfl rfl ?_
  refine dk_iconst (pc' := 2) hE dX4_clear_1 (by decide) rfl ?_
  refine pf_4_11 (pc' := 5) hE fl_X4_55 dX4_clear_2 (sc_is hs) (by omega) rfl (fun σ1 eσ1 => ?_)
  refine dk_aload_n (pc' := 6) hE dX4_clear_5 rfl rfl rfl ?_
  refine dk_iconst (pc' := 7) hE dX4_clear_6 (by decide) rfl ?_
  refine pf_4_12 (pc' := 10) hE fl_X4_58 dX4_clear_7 (sc_is hs) (by omega) rfl (fun σ2 eσ2 => ?_)
  refine dk_aload_n (pc' := 11) hE dX4_clear_10 rfl rfl rfl ?_
  refine dk_iconst (pc' := 12) hE dX4_clear_11 (by decide) rfl ?_
  refine pf_4_13 (pc' := 15) hE fl_X4_61 dX4_clear_12 (sc_is hs) trivial rfl (fun σ3 eσ3 => ?_)
  refine dk_aload_n (pc' := 16) hE dX4_clear_15 rfl rfl rfl ?_
  refine dk_bipush (pc' := 18) hE dX4_clear_16 (by decide) rfl ?_
  refine pf_4_14 (pc' := 21) hE fl_X4_48 dX4_clear_18 (sc_is hs) trivial rfl (fun σ4 eσ4 => ?_)
  refine dk_aload_n (pc' := 22) hE dX4_clear_21 rfl rfl rfl ?_
  refine dk_bipush (pc' := 24) hE dX4_clear_22 (by decide) rfl ?_
  refine pf_4_15 (pc' := 27) hE fl_X4_52 dX4_clear_24 (sc_is hs) trivial rfl (fun σ5 eσ5 => ?_)
  refine dk_aload_n (pc' := 28) hE dX4_clear_27 rfl rfl rfl ?_
  refine dk_iconst (pc' := 29) hE dX4_clear_28 (by decide) rfl ?_
  refine pf_4_16 (pc' := 32) hE fl_X4_64 dX4_clear_29 (sc_is hs) (by omega) rfl (fun σ6 eσ6 => ?_)
  have hz7 : σ6 s 11 = 0 := by rw [eσ6, dk_up_n (show ¬ (s = s ∧ 11 = 16) by omega), eσ5, dk_up_n (show ¬ (s = s ∧ 11 = 15) by omega), eσ4, dk_up_n (show ¬ (s = s ∧ 11 = 14) by omega), eσ3, dk_up_n (show ¬ (s = s ∧ 11 = 13) by omega), eσ2, dk_up_n (show ¬ (s = s ∧ 11 = 12) by omega), eσ1, dk_up_s]
  have hz8 : σ6 s 12 = 0 := by rw [eσ6, dk_up_n (show ¬ (s = s ∧ 12 = 16) by omega), eσ5, dk_up_n (show ¬ (s = s ∧ 12 = 15) by omega), eσ4, dk_up_n (show ¬ (s = s ∧ 12 = 14) by omega), eσ3, dk_up_n (show ¬ (s = s ∧ 12 = 13) by omega), eσ2, dk_up_s]
  exact dk_vret (st := []) hE hR dX4_clear_32 ⟨rfl, (fun k_ j_ h_ => by rw [eσ6, dk_up_n (show ¬ (k_ = s ∧ j_ = 16) from fun q_ => h_ (Or.inr (Or.inr (Or.inr (Or.inr (Or.inr (q_))))))), eσ5, dk_up_n (show ¬ (k_ = s ∧ j_ = 15) from fun q_ => h_ (Or.inr (Or.inr (Or.inr (Or.inr (Or.inl (q_))))))), eσ4, dk_up_n (show ¬ (k_ = s ∧ j_ = 14) from fun q_ => h_ (Or.inr (Or.inr (Or.inr (Or.inl (q_)))))), eσ3, dk_up_n (show ¬ (k_ = s ∧ j_ = 13) from fun q_ => h_ (Or.inr (Or.inr (Or.inl (q_))))), eσ2, dk_up_n (show ¬ (k_ = s ∧ j_ = 12) from fun q_ => h_ (Or.inr (Or.inl (q_)))), eσ1, dk_up_n (show ¬ (k_ = s ∧ j_ = 11) from fun q_ => h_ (Or.inl (q_)))]), ⟨by rw [eσ6, dk_up_n (show ¬ (s = s ∧ 11 = 16) by omega), eσ5, dk_up_n (show ¬ (s = s ∧ 11 = 15) by omega), eσ4, dk_up_n (show ¬ (s = s ∧ 11 = 14) by omega), eσ3, dk_up_n (show ¬ (s = s ∧ 11 = 13) by omega), eσ2, dk_up_n (show ¬ (s = s ∧ 11 = 12) by omega), eσ1, dk_up_s], by rw [eσ6, dk_up_n (show ¬ (s = s ∧ 12 = 16) by omega), eσ5, dk_up_n (show ¬ (s = s ∧ 12 = 15) by omega), eσ4, dk_up_n (show ¬ (s = s ∧ 12 = 14) by omega), eσ3, dk_up_n (show ¬ (s = s ∧ 12 = 13) by omega), eσ2, dk_up_s]⟩⟩
set_option maxHeartbeats 4000000 in
set_option maxRecDepth 20000 in
theorem ct_X4_isWork (l : Launch) (G : dkG) (hGd : dk_Gd G) (s a : Int) : dk_Ct l G dk_Ty yX4_isWork cX4_isWork 2 (some .boolean) 1 190 190 (fun av σ => av = [(4, s), (0, a)] ∧ (dk_sc s)) (fun _ σ r_ σ' => ∃ z : Int, r_ = some (0, z) ∧ (∀ k_ j_ : Int, ¬ (False) → σ' k_ j_ = σ k_ j_) ∧ (z = 1 ∧ 0 ≤ a ∧ a < σ s 11 ∧ σ s 11 ≤ 4 ∨ z = 0)) := by
  refine dk_enter hGd (by decide) (fun av σ hpre hok => ?_)
  obtain ⟨rfl, hs⟩ := hpre
  refine ⟨Nat.le_of_ble_eq_true rfl, fun E hE hR _ => ?_⟩
  have hi_a : dk_i32 a := dk_oki (hok _ (by simp))
  show dk_PJ E 0 [(4, s), (0, a)] [] 190 σ
  refine dk_iload_n (pc' := 1) hE dX4_isWork_0 rfl rfl rfl ?_
  refine dk_if_lt (tgt := 16) (pc' := 4) hE dX4_isWork_1 (by decide) rfl (fun hc1 => ?_) (fun hc1 => ?_)
  · skip
    refine dk_iconst (pc' := 17) hE dX4_isWork_16 (by decide) rfl ?_
    exact dk_zret (st := []) hE hR dX4_isWork_17 (by omega) ⟨_, rfl, (fun k_ j_ h_ => rfl), by omega⟩
  · skip
    refine dk_iload_n (pc' := 5) hE dX4_isWork_4 rfl rfl rfl ?_
    refine dk_aload_n (pc' := 6) hE dX4_isWork_5 rfl rfl rfl ?_
    refine gf_4_11 (pc' := 9) hE fl_X4_55 dX4_isWork_6 (sc_is hs) rfl (fun v2 hv2 htv2 hbv2 => ?_)
    refine dk_icmp_ge (tgt := 16) (pc' := 12) hE dX4_isWork_9 (by decide) rfl (fun hc3 => ?_) (fun hc3 => ?_)
    · skip
      refine dk_iconst (pc' := 17) hE dX4_isWork_16 (by decide) rfl ?_
      exact dk_zret (st := []) hE hR dX4_isWork_17 (by omega) ⟨_, rfl, (fun k_ j_ h_ => rfl), by omega⟩
    · skip
      refine dk_iconst (pc' := 13) hE dX4_isWork_12 (by decide) rfl ?_
      refine dk_goto (tgt := 17) hE dX4_isWork_13 (by decide) ?_
      exact dk_zret (st := []) hE hR dX4_isWork_17 (by omega) ⟨_, rfl, (fun k_ j_ h_ => rfl), by omega⟩
set_option maxHeartbeats 4000000 in
set_option maxRecDepth 20000 in
theorem ct_X4_isPart (l : Launch) (G : dkG) (hGd : dk_Gd G) (s a : Int) : dk_Ct l G dk_Ty yX4_isPart cX4_isPart 2 (some .boolean) 1 190 190 (fun av σ => av = [(4, s), (0, a)] ∧ (dk_sc s)) (fun _ σ r_ σ' => ∃ z : Int, r_ = some (0, z) ∧ (∀ k_ j_ : Int, ¬ (False) → σ' k_ j_ = σ k_ j_) ∧ (z = 1 ∧ 0 ≤ a ∧ a < σ s 12 ∧ σ s 12 ≤ 12 ∨ z = 0)) := by
  refine dk_enter hGd (by decide) (fun av σ hpre hok => ?_)
  obtain ⟨rfl, hs⟩ := hpre
  refine ⟨Nat.le_of_ble_eq_true rfl, fun E hE hR _ => ?_⟩
  have hi_a : dk_i32 a := dk_oki (hok _ (by simp))
  show dk_PJ E 0 [(4, s), (0, a)] [] 190 σ
  refine dk_iload_n (pc' := 1) hE dX4_isPart_0 rfl rfl rfl ?_
  refine dk_if_lt (tgt := 16) (pc' := 4) hE dX4_isPart_1 (by decide) rfl (fun hc1 => ?_) (fun hc1 => ?_)
  · skip
    refine dk_iconst (pc' := 17) hE dX4_isPart_16 (by decide) rfl ?_
    exact dk_zret (st := []) hE hR dX4_isPart_17 (by omega) ⟨_, rfl, (fun k_ j_ h_ => rfl), by omega⟩
  · skip
    refine dk_iload_n (pc' := 5) hE dX4_isPart_4 rfl rfl rfl ?_
    refine dk_aload_n (pc' := 6) hE dX4_isPart_5 rfl rfl rfl ?_
    refine gf_4_12 (pc' := 9) hE fl_X4_58 dX4_isPart_6 (sc_is hs) rfl (fun v2 hv2 htv2 hbv2 => ?_)
    refine dk_icmp_ge (tgt := 16) (pc' := 12) hE dX4_isPart_9 (by decide) rfl (fun hc3 => ?_) (fun hc3 => ?_)
    · skip
      refine dk_iconst (pc' := 17) hE dX4_isPart_16 (by decide) rfl ?_
      exact dk_zret (st := []) hE hR dX4_isPart_17 (by omega) ⟨_, rfl, (fun k_ j_ h_ => rfl), by omega⟩
    · skip
      refine dk_iconst (pc' := 13) hE dX4_isPart_12 (by decide) rfl ?_
      refine dk_goto (tgt := 17) hE dX4_isPart_13 (by decide) ?_
      exact dk_zret (st := []) hE hR dX4_isPart_17 (by omega) ⟨_, rfl, (fun k_ j_ h_ => rfl), by omega⟩
set_option maxHeartbeats 4000000 in
set_option maxRecDepth 20000 in
theorem ct_X4_isNote (l : Launch) (G : dkG) (hGd : dk_Gd G) (s a : Int) : dk_Ct l G dk_Ty yX4_isNote cX4_isNote 2 (some .boolean) 2 190 190 (fun av σ => av = [(4, s), (0, a)] ∧ (dk_sc s)) (fun _ σ r_ σ' => ∃ z : Int, r_ = some (0, z) ∧ (∀ k_ j_ : Int, ¬ (False) → σ' k_ j_ = σ k_ j_) ∧ (z = 1 ∧ 0 ≤ a ∧ a < σ s 12 ∧ σ s 12 ≤ 12 ∨ z = 0)) := by
  refine dk_enter hGd (by decide) (fun av σ hpre hok => ?_)
  obtain ⟨rfl, hs⟩ := hpre
  refine ⟨Nat.le_of_ble_eq_true rfl, fun E hE hR _ => ?_⟩
  have hi_a : dk_i32 a := dk_oki (hok _ (by simp))
  show dk_PJ E 0 [(4, s), (0, a)] [] 190 σ
  refine dk_aload_n (pc' := 1) hE dX4_isNote_0 rfl rfl rfl ?_
  refine dk_iload_n (pc' := 2) hE dX4_isNote_1 rfl rfl rfl ?_
  refine dk_cV (pc' := 5) (as := [(0, a)]) hE lk_X4_67 (ct_X4_isPart l G hGd s a) dX4_isNote_2 rfl (sc_is hs) rfl (by decide) (Nat.le_of_ble_eq_true rfl) ⟨rfl, (by omega)⟩ rfl (fun r2 σ1 hr2 _ => ?_)
  obtain ⟨v3, rfl, hfσ1, hpr2⟩ := hr2
  have hsσ1 : σ = σ1 := (funext (fun k => funext (fun j => hfσ1 k j not_false))).symm
  subst hsσ1
  rcases hpr2 with ⟨rfl, hpr2⟩ | rfl
  · skip
    refine dk_if_eq (tgt := 21) (pc' := 8) hE dX4_isNote_5 (by decide) rfl (fun hc4 => absurd hc4 (by decide)) (fun hc4 => ?_)
    refine dk_aload_n (pc' := 9) hE dX4_isNote_8 rfl rfl rfl ?_
    refine gf_4_8 (pc' := 12) (w := (s + 20)) hE fl_X4_35 dX4_isNote_9 (sc_is hs) rfl rfl ?_
    refine dk_iload_n (pc' := 13) hE dX4_isNote_12 rfl rfl rfl ?_
    refine ga_67 (pc' := 14) hE dX4_isNote_13 (sc_20 hs) (by omega) rfl (fun v5 hv5 htv5 hbv5 => ?_)
    refine dk_if_eq (tgt := 21) (pc' := 17) hE dX4_isNote_14 (by decide) rfl (fun hc6 => ?_) (fun hc6 => ?_)
    · skip
      refine dk_iconst (pc' := 22) hE dX4_isNote_21 (by decide) rfl ?_
      exact dk_zret (st := []) hE hR dX4_isNote_22 (by omega) ⟨_, rfl, (fun k_ j_ h_ => rfl), by omega⟩
    · skip
      refine dk_iconst (pc' := 18) hE dX4_isNote_17 (by decide) rfl ?_
      refine dk_goto (tgt := 22) hE dX4_isNote_18 (by decide) ?_
      exact dk_zret (st := []) hE hR dX4_isNote_22 (by omega) ⟨_, rfl, (fun k_ j_ h_ => rfl), by omega⟩
  · skip
    refine dk_if_eq (tgt := 21) (pc' := 8) hE dX4_isNote_5 (by decide) rfl (fun hc7 => ?_) (fun hc7 => absurd hc7 (by decide))
    refine dk_iconst (pc' := 22) hE dX4_isNote_21 (by decide) rfl ?_
    exact dk_zret (st := []) hE hR dX4_isNote_22 (by omega) ⟨_, rfl, (fun k_ j_ h_ => rfl), by omega⟩
set_option maxHeartbeats 4000000 in
set_option maxRecDepth 20000 in
theorem ct_X4_seatOf (l : Launch) (G : dkG) (hGd : dk_Gd G) (s p : Int) : dk_Ct l G dk_Ty yX4_seatOf cX4_seatOf 2 (some .int) 1 190 190 (fun av σ => av = [(4, s), (0, p)] ∧ (dk_sc s) ∧ (GI σ) ∧ (0 ≤ p ∧ p < σ s 12 ∧ σ s 12 ≤ 12)) (fun _ σ r_ σ' => ∃ z : Int, r_ = some (0, z) ∧ (∀ k_ j_ : Int, ¬ (False) → σ' k_ j_ = σ k_ j_) ∧ (0 ≤ z ∧ z < 8)) := by
  refine dk_enter hGd (by decide) (fun av σ hpre hok => ?_)
  obtain ⟨rfl, hs, hG, hp⟩ := hpre
  refine ⟨Nat.le_of_ble_eq_true rfl, fun E hE hR _ => ?_⟩
  have hi_p : dk_i32 p := dk_oki (hok _ (by simp))
  show dk_PJ E 0 [(4, s), (0, p)] [] 190 σ
  obtain ⟨g1, g2, g3, g4⟩ := (hG.of hs).1 p hp.1 hp.2.1
  refine dk_iload_n (pc' := 1) hE dX4_seatOf_0 rfl rfl rfl ?_
  refine dk_aload_n (pc' := 2) hE dX4_seatOf_1 rfl rfl rfl ?_
  refine gf_4_9 (pc' := 5) (w := (s + 21)) hE fl_X4_39 dX4_seatOf_2 (sc_is hs) rfl rfl ?_
  refine dk_aload_n (pc' := 6) hE dX4_seatOf_5 rfl rfl rfl ?_
  refine gf_4_4 (pc' := 9) (w := (s + 16)) hE fl_X4_23 dX4_seatOf_6 (sc_is hs) rfl rfl ?_
  refine dk_iload_n (pc' := 10) hE dX4_seatOf_9 rfl rfl rfl ?_
  refine ga_63 (pc' := 11) hE dX4_seatOf_10 (sc_16 hs) (by omega) rfl (fun v1 hv1 htv1 hbv1 => ?_)
  refine ga_68 (pc' := 12) hE dX4_seatOf_11 (sc_21 hs) (by omega) rfl (fun v2 hv2 htv2 hbv2 => ?_)
  obtain ⟨v3, hv3⟩ : ∃ z : Int, z = p - v2 := ⟨_, rfl⟩
  refine dk_isub (pc' := 13) hE dX4_seatOf_12 hv3.symm (by omega) rfl ?_
  exact dk_iret (st := []) hE hR dX4_seatOf_13 ⟨_, rfl, (fun k_ j_ h_ => rfl), by simp only [*] at *; omega⟩
set_option maxHeartbeats 4000000 in
set_option maxRecDepth 20000 in
theorem ct_X4_stepAt (l : Launch) (G : dkG) (hGd : dk_Gd G) (s p c r : Int) : dk_Ct l G dk_Ty yX4_stepAt cX4_stepAt 5 (some .int) 1 190 190 (fun av σ => av = [(4, s), (0, p), (0, c), (0, r)] ∧ (dk_sc s) ∧ (GI σ) ∧ (0 ≤ p ∧ p < 12) ∧ (0 ≤ r ∧ r < 2)) (fun _ σ r_ σ' => ∃ z : Int, r_ = some (0, z) ∧ (∀ k_ j_ : Int, ¬ (False) → σ' k_ j_ = σ k_ j_) ∧ (z = -1 ∧ (c < 1 ∨ σ (s + 17) p < c) ∨ 0 ≤ z ∧ z ≤ 5 ∧ 1 ≤ c ∧ c ≤ σ (s + 17) p ∧ c ≤ 32)) := by
  refine dk_enter hGd (by decide) (fun av σ hpre hok => ?_)
  obtain ⟨rfl, hs, hG, hp, hr⟩ := hpre
  refine ⟨Nat.le_of_ble_eq_true rfl, fun E hE hR _ => ?_⟩
  have hi_p : dk_i32 p := dk_oki (hok _ (by simp))
  have hi_c : dk_i32 c := dk_oki (hok _ (by simp))
  have hi_r : dk_i32 r := dk_oki (hok _ (by simp))
  show dk_PJ E 0 [(4, s), (0, p), (0, c), (0, r), (9, 0)] [] 190 σ
  refine dk_iload_n (pc' := 1) hE dX4_stepAt_0 rfl rfl rfl ?_
  refine dk_iconst (pc' := 2) hE dX4_stepAt_1 (by decide) rfl ?_
  refine dk_icmp_lt (tgt := 15) (pc' := 5) hE dX4_stepAt_2 (by decide) rfl (fun hc1 => ?_) (fun hc1 => ?_)
  · skip
    refine dk_iconst (pc' := 16) hE dX4_stepAt_15 (by decide) rfl ?_
    exact dk_iret (st := []) hE hR dX4_stepAt_16 ⟨_, rfl, (fun k_ j_ h_ => rfl), by omega⟩
  · skip
    refine dk_iload_n (pc' := 6) hE dX4_stepAt_5 rfl rfl rfl ?_
    refine dk_aload_n (pc' := 7) hE dX4_stepAt_6 rfl rfl rfl ?_
    refine gf_4_5 (pc' := 10) (w := (s + 17)) hE fl_X4_26 dX4_stepAt_7 (sc_is hs) rfl rfl ?_
    refine dk_iload_n (pc' := 11) hE dX4_stepAt_10 rfl rfl rfl ?_
    refine ga_64 (pc' := 12) hE dX4_stepAt_11 (sc_17 hs) (by omega) rfl (fun v2 hv2 htv2 hbv2 => ?_)
    refine dk_icmp_le (tgt := 17) (pc' := 15) hE dX4_stepAt_12 (by decide) rfl (fun hc3 => ?_) (fun hc3 => ?_)
    · skip
      refine dk_aload_n (pc' := 18) hE dX4_stepAt_17 rfl rfl rfl ?_
      refine gf_4_3 (pc' := 21) (w := (s + 3)) hE fl_X4_20 dX4_stepAt_18 (sc_is hs) rfl rfl ?_
      refine dk_iload_n (pc' := 22) hE dX4_stepAt_21 rfl rfl rfl ?_
      refine ga_61 (pc' := 23) (w := (s + 4 + p)) hE dX4_stepAt_22 (sc_3 hs) (by omega) (by omega) rfl ?_
      refine dk_iload_n (pc' := 24) hE dX4_stepAt_23 rfl rfl rfl ?_
      refine dk_iconst (pc' := 25) hE dX4_stepAt_24 (by decide) rfl ?_
      obtain ⟨v4, hv4⟩ : ∃ z : Int, z = c - 1 := ⟨_, rfl⟩
      refine dk_isub (pc' := 26) hE dX4_stepAt_25 hv4.symm (by omega) rfl ?_
      refine ga_62 (pc' := 27) hE dX4_stepAt_26 (rw_marks hs (by omega)) (by omega) rfl (fun v5 hv5 htv5 hbv5 => ?_)
      have gv5 := (hG.of hs).2.2.2 p v4 hp.1 hp.2
      refine dk_istore (pc' := 29) (ls' := [(4, s), (0, p), (0, c), (0, r), (0, v5)]) hE dX4_stepAt_27 rfl (by decide) rfl ?_
      refine dk_aload_n (pc' := 30) hE dX4_stepAt_29 rfl rfl rfl ?_
      refine gf_4_8 (pc' := 33) (w := (s + 20)) hE fl_X4_35 dX4_stepAt_30 (sc_is hs) rfl rfl ?_
      refine dk_iload_n (pc' := 34) hE dX4_stepAt_33 rfl rfl rfl ?_
      refine ga_67 (pc' := 35) hE dX4_stepAt_34 (sc_20 hs) (by omega) rfl (fun v6 hv6 htv6 hbv6 => ?_)
      refine dk_if_eq (tgt := 50) (pc' := 38) hE dX4_stepAt_35 (by decide) rfl (fun hc7 => ?_) (fun hc7 => ?_)
      · skip
        refine dk_iload (pc' := 52) hE dX4_stepAt_50 rfl rfl ?_
        exact dk_iret (st := []) hE hR dX4_stepAt_52 ⟨_, rfl, (fun k_ j_ h_ => rfl), by omega⟩
      · skip
        refine dk_aload_n (pc' := 39) hE dX4_stepAt_38 rfl rfl rfl ?_
        refine gf_4_0 (pc' := 42) (w := 3) hE fl_X4_45 dX4_stepAt_39 (sc_is hs) rfl rfl ?_
        refine dk_iload_n (pc' := 43) hE dX4_stepAt_42 rfl rfl rfl ?_
        refine ga_21 (pc' := 44) (w := (4 + r)) hE dX4_stepAt_43 is_3 (by omega) (by omega) rfl ?_
        refine dk_iload (pc' := 46) hE dX4_stepAt_44 rfl rfl ?_
        refine ga_22 (pc' := 47) hE dX4_stepAt_46 (rw_readings (by omega)) (by omega) rfl (fun v8 hv8 htv8 hbv8 => ?_)
        refine dk_goto (tgt := 52) hE dX4_stepAt_47 (by decide) ?_
        exact dk_iret (st := []) hE hR dX4_stepAt_52 ⟨_, rfl, (fun k_ j_ h_ => rfl), by omega⟩
    · skip
      refine dk_iconst (pc' := 16) hE dX4_stepAt_15 (by decide) rfl ?_
      exact dk_iret (st := []) hE hR dX4_stepAt_16 ⟨_, rfl, (fun k_ j_ h_ => rfl), by omega⟩
set_option maxHeartbeats 4000000 in
set_option maxRecDepth 20000 in
theorem ct_X4_placeBehind (l : Launch) (G : dkG) (hGd : dk_Gd G) (s p c r : Int) : dk_Ct l G dk_Ty yX4_placeBehind cX4_placeBehind 8 (some .int) 2 190 190 (fun av σ => av = [(4, s), (0, p), (0, c), (0, r)] ∧ (dk_sc s) ∧ (GI σ) ∧ (0 ≤ p ∧ p < 12) ∧ (0 ≤ r ∧ r < 2)) (fun _ σ r_ σ' => ∃ z : Int, r_ = some (0, z) ∧ (∀ k_ j_ : Int, ¬ (False) → σ' k_ j_ = σ k_ j_) ∧ (True)) := by
  refine dk_enter hGd (by decide) (fun av σ hpre hok => ?_)
  obtain ⟨rfl, hs, hG, hp, hr⟩ := hpre
  refine ⟨Nat.le_of_ble_eq_true rfl, fun E hE hR _ => ?_⟩
  have hi_p : dk_i32 p := dk_oki (hok _ (by simp))
  have hi_c : dk_i32 c := dk_oki (hok _ (by simp))
  have hi_r : dk_i32 r := dk_oki (hok _ (by simp))
  show dk_PJ E 0 [(4, s), (0, p), (0, c), (0, r), (9, 0), (9, 0), (9, 0), (9, 0)] [] 190 σ
  refine dk_aload_n (pc' := 1) hE dX4_placeBehind_0 rfl rfl rfl ?_
  refine gf_4_6 (pc' := 4) (w := (s + 18)) hE fl_X4_29 dX4_placeBehind_1 (sc_is hs) rfl rfl ?_
  refine dk_iload_n (pc' := 5) hE dX4_placeBehind_4 rfl rfl rfl ?_
  refine ga_65 (pc' := 6) hE dX4_placeBehind_5 (sc_18 hs) (by omega) rfl (fun v1 hv1 htv1 hbv1 => ?_)
  refine dk_istore (pc' := 8) (ls' := [(4, s), (0, p), (0, c), (0, r), (0, v1), (9, 0), (9, 0), (9, 0)]) hE dX4_placeBehind_6 rfl (by decide) rfl ?_
  refine dk_aload_n (pc' := 9) hE dX4_placeBehind_8 rfl rfl rfl ?_
  refine gf_4_7 (pc' := 12) (w := (s + 19)) hE fl_X4_32 dX4_placeBehind_9 (sc_is hs) rfl rfl ?_
  refine dk_iload_n (pc' := 13) hE dX4_placeBehind_12 rfl rfl rfl ?_
  refine ga_66 (pc' := 14) hE dX4_placeBehind_13 (sc_19 hs) (by omega) rfl (fun v2 hv2 htv2 hbv2 => ?_)
  refine dk_istore (pc' := 16) (ls' := [(4, s), (0, p), (0, c), (0, r), (0, v1), (0, v2), (9, 0), (9, 0)]) hE dX4_placeBehind_14 rfl (by decide) rfl ?_
  refine dk_iconst (pc' := 17) hE dX4_placeBehind_16 (by decide) rfl ?_
  refine dk_istore (pc' := 19) (ls' := [(4, s), (0, p), (0, c), (0, r), (0, v1), (0, v2), (0, 1), (9, 0)]) hE dX4_placeBehind_17 rfl (by decide) rfl ?_
  have lp19 : ∀ (N_ : Nat) (x y i : Int) (σ19c : dkS), (2147483648 - i).toNat < N_ → ((∀ k_ j_ : Int, ¬ (False) → σ19c k_ j_ = σ k_ j_)) → (1 ≤ i) → (dk_i32 x ∧ dk_i32 y) → dk_PJ E 19 [(4, s), (0, p), (0, c), (0, r), (0, x), (0, y), (0, i), (9, 0)] [] 190 σ19c := by
    intro N19
    induction N19 with
    | zero => intro x y i σ19c hm; exact absurd hm (Nat.not_lt_zero _)
    | succ N19 ih19 =>
      intro x y i σ19c hm19 hF19 hi hx
      refine dk_iload (pc' := 21) hE dX4_placeBehind_19 rfl rfl ?_
      refine dk_iload_n (pc' := 22) hE dX4_placeBehind_21 rfl rfl rfl ?_
      refine dk_icmp_gt (tgt := 74) (pc' := 25) hE dX4_placeBehind_22 (by decide) rfl (fun hc3 => ?_) (fun hc3 => ?_)
      · skip
        refine dk_sipush (pc' := 77) hE dX4_placeBehind_74 (by decide) rfl ?_
        refine dk_iload (pc' := 79) hE dX4_placeBehind_77 rfl rfl ?_
        refine dk_bipush (pc' := 81) hE dX4_placeBehind_79 (by decide) rfl ?_
        refine dk_iaddW (pc' := 82) hE dX4_placeBehind_81 rfl (fun v4 hv4 _ => ?_)
        refine dk_imulW (pc' := 83) hE dX4_placeBehind_82 rfl (fun v5 hv5 _ => ?_)
        refine dk_iload (pc' := 85) hE dX4_placeBehind_83 rfl rfl ?_
        refine dk_iaddW (pc' := 86) hE dX4_placeBehind_85 rfl (fun v6 hv6 _ => ?_)
        refine dk_bipush (pc' := 88) hE dX4_placeBehind_86 (by decide) rfl ?_
        refine dk_iaddW (pc' := 89) hE dX4_placeBehind_88 rfl (fun v7 hv7 _ => ?_)
        exact dk_iret (st := []) hE hR dX4_placeBehind_89 ⟨_, rfl, (fun k_ j_ h_ => by rw [hF19 k_ j_ not_false]), trivial⟩
      · skip
        refine dk_iload (pc' := 27) hE dX4_placeBehind_25 rfl rfl ?_
        refine dk_aload_n (pc' := 28) hE dX4_placeBehind_27 rfl rfl rfl ?_
        refine gf_4_5 (pc' := 31) (w := (s + 17)) hE fl_X4_26 dX4_placeBehind_28 (sc_is hs) rfl rfl ?_
        refine dk_iload_n (pc' := 32) hE dX4_placeBehind_31 rfl rfl rfl ?_
        refine ga_64 (pc' := 33) hE dX4_placeBehind_32 (sc_17 hs) (by omega) rfl (fun v8 hv8 htv8 hbv8 => ?_)
        refine dk_icmp_gt (tgt := 74) (pc' := 36) hE dX4_placeBehind_33 (by decide) rfl (fun hc9 => ?_) (fun hc9 => ?_)
        · skip
          refine dk_sipush (pc' := 77) hE dX4_placeBehind_74 (by decide) rfl ?_
          refine dk_iload (pc' := 79) hE dX4_placeBehind_77 rfl rfl ?_
          refine dk_bipush (pc' := 81) hE dX4_placeBehind_79 (by decide) rfl ?_
          refine dk_iaddW (pc' := 82) hE dX4_placeBehind_81 rfl (fun v10 hv10 _ => ?_)
          refine dk_imulW (pc' := 83) hE dX4_placeBehind_82 rfl (fun v11 hv11 _ => ?_)
          refine dk_iload (pc' := 85) hE dX4_placeBehind_83 rfl rfl ?_
          refine dk_iaddW (pc' := 86) hE dX4_placeBehind_85 rfl (fun v12 hv12 _ => ?_)
          refine dk_bipush (pc' := 88) hE dX4_placeBehind_86 (by decide) rfl ?_
          refine dk_iaddW (pc' := 89) hE dX4_placeBehind_88 rfl (fun v13 hv13 _ => ?_)
          exact dk_iret (st := []) hE hR dX4_placeBehind_89 ⟨_, rfl, (fun k_ j_ h_ => by rw [hF19 k_ j_ not_false]), trivial⟩
        · skip
          refine dk_aload_n (pc' := 37) hE dX4_placeBehind_36 rfl rfl rfl ?_
          refine dk_iload_n (pc' := 38) hE dX4_placeBehind_37 rfl rfl rfl ?_
          refine dk_iload (pc' := 40) hE dX4_placeBehind_38 rfl rfl ?_
          refine dk_iload_n (pc' := 41) hE dX4_placeBehind_40 rfl rfl rfl ?_
          have gi14 : GI σ19c := GI_fr hG (fun k_ j_ h_ => by rw [hF19 k_ j_ not_false])
          refine dk_cV (pc' := 44) (as := [(0, p), (0, i), (0, r)]) hE lk_X4_71 (ct_X4_stepAt l G hGd s p i r) dX4_placeBehind_41 rfl (sc_is hs) rfl (by decide) (Nat.le_of_ble_eq_true rfl) ⟨rfl, (by omega), gi14, (by omega), (by omega)⟩ rfl (fun r16 σ15 hr16 _ => ?_)
          obtain ⟨v17, rfl, hfσ15, hpr16⟩ := hr16
          have hsσ15 : σ19c = σ15 := (funext (fun k => funext (fun j => hfσ15 k j not_false))).symm
          subst hsσ15
          refine dk_istore (pc' := 46) (ls' := [(4, s), (0, p), (0, c), (0, r), (0, x), (0, y), (0, i), (0, v17)]) hE dX4_placeBehind_44 rfl (by decide) rfl ?_
          refine dk_iload (pc' := 48) hE dX4_placeBehind_46 rfl rfl ?_
          refine dk_getsX (pc' := 51) hE wd_924 dX4_placeBehind_48 rfl ?_
          refine dk_iload (pc' := 53) hE dX4_placeBehind_51 rfl rfl ?_
          refine dk_tabX (pc' := 54) hE dX4_placeBehind_53 (by omega) rfl (fun v18 hbv18 => ?_)
          refine dk_iaddW (pc' := 55) hE dX4_placeBehind_54 rfl (fun v19 hv19 _ => ?_)
          refine dk_istore (pc' := 57) (ls' := [(4, s), (0, p), (0, c), (0, r), (0, v19), (0, y), (0, i), (0, v17)]) hE dX4_placeBehind_55 rfl (by decide) rfl ?_
          refine dk_iload (pc' := 59) hE dX4_placeBehind_57 rfl rfl ?_
          refine dk_getsY (pc' := 62) hE wd_926 dX4_placeBehind_59 rfl ?_
          refine dk_iload (pc' := 64) hE dX4_placeBehind_62 rfl rfl ?_
          refine dk_tabY (pc' := 65) hE dX4_placeBehind_64 (by omega) rfl (fun v20 hbv20 => ?_)
          refine dk_iaddW (pc' := 66) hE dX4_placeBehind_65 rfl (fun v21 hv21 _ => ?_)
          refine dk_istore (pc' := 68) (ls' := [(4, s), (0, p), (0, c), (0, r), (0, v19), (0, v21), (0, i), (0, v17)]) hE dX4_placeBehind_66 rfl (by decide) rfl ?_
          obtain ⟨v22, hv22⟩ : ∃ z : Int, z = i + 1 := ⟨_, rfl⟩
          refine dk_iinc (pc' := 71) (ls' := [(4, s), (0, p), (0, c), (0, r), (0, v19), (0, v21), (0, v22), (0, v17)]) hE dX4_placeBehind_68 rfl hv22.symm (by omega) rfl (by decide) rfl ?_
          refine dk_goto (tgt := 19) hE dX4_placeBehind_71 (by decide) ?_
          refine dk_drop (ls' := [(4, s), (0, p), (0, c), (0, r), (0, v19), (0, v21), (0, v22), (9, 0)]) [true, true, true, true, true, true, true, false] rfl ?_
          exact ih19 v19 v21 v22 σ19c (by omega) (fun k_ j_ h_ => by rw [hF19 k_ j_ not_false]) (by omega) (by omega)
  exact lp19 _ v1 v2 1 σ (Nat.lt_succ_self _) (fun k_ j_ h_ => rfl) (by omega) (by omega)
set_option maxHeartbeats 4000000 in
set_option maxRecDepth 20000 in
theorem ct_X4_loadOf (l : Launch) (G : dkG) (hGd : dk_Gd G) (s p r : Int) : dk_Ct l G dk_Ty yX4_loadOf cX4_loadOf 6 (some .int) 2 190 190 (fun av σ => av = [(4, s), (0, p), (0, r)] ∧ (dk_sc s) ∧ (GI σ) ∧ (0 ≤ p ∧ p < 12) ∧ (0 ≤ r ∧ r < 2)) (fun _ σ r_ σ' => ∃ z : Int, r_ = some (0, z) ∧ (∀ k_ j_ : Int, ¬ (False) → σ' k_ j_ = σ k_ j_) ∧ (0 ≤ z ∧ z ≤ 500)) := by
  refine dk_enter hGd (by decide) (fun av σ hpre hok => ?_)
  obtain ⟨rfl, hs, hG, hp, hr⟩ := hpre
  refine ⟨Nat.le_of_ble_eq_true rfl, fun E hE hR _ => ?_⟩
  have hi_p : dk_i32 p := dk_oki (hok _ (by simp))
  have hi_r : dk_i32 r := dk_oki (hok _ (by simp))
  show dk_PJ E 0 [(4, s), (0, p), (0, r), (9, 0), (9, 0), (9, 0)] [] 190 σ
  refine dk_aload_n (pc' := 1) hE dX4_loadOf_0 rfl rfl rfl ?_
  refine gf_4_5 (pc' := 4) (w := (s + 17)) hE fl_X4_26 dX4_loadOf_1 (sc_is hs) rfl rfl ?_
  refine dk_iload_n (pc' := 5) hE dX4_loadOf_4 rfl rfl rfl ?_
  refine ga_64 (pc' := 6) hE dX4_loadOf_5 (sc_17 hs) (by omega) rfl (fun v1 hv1 htv1 hbv1 => ?_)
  refine dk_aload_n (pc' := 7) hE dX4_loadOf_6 rfl rfl rfl ?_
  refine gf_4_16 (pc' := 10) hE fl_X4_64 dX4_loadOf_7 (sc_is hs) rfl (fun v2 hv2 htv2 hbv2 => ?_)
  obtain ⟨v3, hv3⟩ : ∃ z : Int, z = v1 * v2 := ⟨_, rfl⟩
  have hmv3 := dk_mul_b (a := v1) (b := v2) (A := 32) (B := 9) (by omega) (by omega)
  refine dk_imul (pc' := 11) hE dX4_loadOf_10 hv3.symm (by omega) rfl ?_
  refine dk_iconst (pc' := 12) hE dX4_loadOf_11 (by decide) rfl ?_
  refine dk_idiv (pc' := 13) hE dX4_loadOf_12 (by omega) rfl (fun v4 hv4 ev4 => ?_)
  have hdv4 := dk_div4 (x := v3) (by omega) (by omega) ev4
  refine dk_istore_n (pc' := 14) (ls' := [(4, s), (0, p), (0, r), (0, v4), (9, 0), (9, 0)]) hE dX4_loadOf_13 rfl rfl (by decide) rfl ?_
  refine dk_iconst (pc' := 15) hE dX4_loadOf_14 (by decide) rfl ?_
  refine dk_istore (pc' := 17) (ls' := [(4, s), (0, p), (0, r), (0, v4), (0, 1), (9, 0)]) hE dX4_loadOf_15 rfl (by decide) rfl ?_
  have lp17 : ∀ (N_ : Nat) (x i : Int) (σ17c : dkS), (2147483648 - i).toNat < N_ → ((∀ k_ j_ : Int, ¬ (False) → σ17c k_ j_ = σ k_ j_)) → (1 ≤ i ∧ i ≤ 33) → (0 ≤ x ∧ x ≤ 300 + 3 * i) → dk_PJ E 17 [(4, s), (0, p), (0, r), (0, x), (0, i), (9, 0)] [] 190 σ17c := by
    intro N17
    induction N17 with
    | zero => intro x i σ17c hm; exact absurd hm (Nat.not_lt_zero _)
    | succ N17 ih17 =>
      intro x i σ17c hm17 hF17 hi hx
      refine dk_iload (pc' := 19) hE dX4_loadOf_17 rfl rfl ?_
      refine dk_aload_n (pc' := 20) hE dX4_loadOf_19 rfl rfl rfl ?_
      refine gf_4_5 (pc' := 23) (w := (s + 17)) hE fl_X4_26 dX4_loadOf_20 (sc_is hs) rfl rfl ?_
      refine dk_iload_n (pc' := 24) hE dX4_loadOf_23 rfl rfl rfl ?_
      refine ga_64 (pc' := 25) hE dX4_loadOf_24 (sc_17 hs) (by omega) rfl (fun v5 hv5 htv5 hbv5 => ?_)
      have hq5 : v1 = v5 := (show v5 = v1 by rw [hv5, hF17 (s + 17) p not_false, hv1]).symm
      subst hq5
      clear htv5 hbv5
      refine dk_icmp_gt (tgt := 65) (pc' := 28) hE dX4_loadOf_25 (by decide) rfl (fun hc6 => ?_) (fun hc6 => ?_)
      · skip
        refine dk_iload_n (pc' := 66) hE dX4_loadOf_65 rfl rfl rfl ?_
        exact dk_iret (st := []) hE hR dX4_loadOf_66 ⟨_, rfl, (fun k_ j_ h_ => by rw [hF17 k_ j_ not_false]), by omega⟩
      · skip
        refine dk_aload_n (pc' := 29) hE dX4_loadOf_28 rfl rfl rfl ?_
        refine dk_iload_n (pc' := 30) hE dX4_loadOf_29 rfl rfl rfl ?_
        refine dk_iload (pc' := 32) hE dX4_loadOf_30 rfl rfl ?_
        refine dk_iload_n (pc' := 33) hE dX4_loadOf_32 rfl rfl rfl ?_
        have gi7 : GI σ17c := GI_fr hG (fun k_ j_ h_ => by rw [hF17 k_ j_ not_false])
        refine dk_cV (pc' := 36) (as := [(0, p), (0, i), (0, r)]) hE lk_X4_71 (ct_X4_stepAt l G hGd s p i r) dX4_loadOf_33 rfl (sc_is hs) rfl (by decide) (Nat.le_of_ble_eq_true rfl) ⟨rfl, (by omega), gi7, (by omega), (by omega)⟩ rfl (fun r9 σ8 hr9 _ => ?_)
        obtain ⟨v10, rfl, hfσ8, hpr9⟩ := hr9
        have hsσ8 : σ17c = σ8 := (funext (fun k => funext (fun j => hfσ8 k j not_false))).symm
        subst hsσ8
        refine dk_istore (pc' := 38) (ls' := [(4, s), (0, p), (0, r), (0, x), (0, i), (0, v10)]) hE dX4_loadOf_36 rfl (by decide) rfl ?_
        refine dk_iload (pc' := 40) hE dX4_loadOf_38 rfl rfl ?_
        refine dk_iconst (pc' := 41) hE dX4_loadOf_40 (by decide) rfl ?_
        refine dk_icmp_ne (tgt := 50) (pc' := 44) hE dX4_loadOf_41 (by decide) rfl (fun hc11 => ?_) (fun hc11 => ?_)
        · skip
          refine dk_iload (pc' := 52) hE dX4_loadOf_50 rfl rfl ?_
          refine dk_iconst (pc' := 53) hE dX4_loadOf_52 (by decide) rfl ?_
          refine dk_icmp_eq (tgt := 59) (pc' := 56) hE dX4_loadOf_53 (by decide) rfl (fun hc12 => ?_) (fun hc12 => ?_)
          · skip
            obtain ⟨v13, hv13⟩ : ∃ z : Int, z = i + 1 := ⟨_, rfl⟩
            refine dk_iinc (pc' := 62) (ls' := [(4, s), (0, p), (0, r), (0, x), (0, v13), (0, v10)]) hE dX4_loadOf_59 rfl hv13.symm (by omega) rfl (by decide) rfl ?_
            refine dk_goto (tgt := 17) hE dX4_loadOf_62 (by decide) ?_
            refine dk_drop (ls' := [(4, s), (0, p), (0, r), (0, x), (0, v13), (9, 0)]) [true, true, true, true, true, false] rfl ?_
            exact ih17 x v13 σ17c (by omega) (fun k_ j_ h_ => by rw [hF17 k_ j_ not_false]) (by omega) (by omega)
          · skip
            obtain ⟨v14, hv14⟩ : ∃ z : Int, z = x + 1 := ⟨_, rfl⟩
            refine dk_iinc (pc' := 59) (ls' := [(4, s), (0, p), (0, r), (0, v14), (0, i), (0, v10)]) hE dX4_loadOf_56 rfl hv14.symm (by omega) rfl (by decide) rfl ?_
            obtain ⟨v15, hv15⟩ : ∃ z : Int, z = i + 1 := ⟨_, rfl⟩
            refine dk_iinc (pc' := 62) (ls' := [(4, s), (0, p), (0, r), (0, v14), (0, v15), (0, v10)]) hE dX4_loadOf_59 rfl hv15.symm (by omega) rfl (by decide) rfl ?_
            refine dk_goto (tgt := 17) hE dX4_loadOf_62 (by decide) ?_
            refine dk_drop (ls' := [(4, s), (0, p), (0, r), (0, v14), (0, v15), (9, 0)]) [true, true, true, true, true, false] rfl ?_
            exact ih17 v14 v15 σ17c (by omega) (fun k_ j_ h_ => by rw [hF17 k_ j_ not_false]) (by omega) (by omega)
        · skip
          obtain ⟨v16, hv16⟩ : ∃ z : Int, z = x + 3 := ⟨_, rfl⟩
          refine dk_iinc (pc' := 47) (ls' := [(4, s), (0, p), (0, r), (0, v16), (0, i), (0, v10)]) hE dX4_loadOf_44 rfl hv16.symm (by omega) rfl (by decide) rfl ?_
          refine dk_goto (tgt := 59) hE dX4_loadOf_47 (by decide) ?_
          obtain ⟨v17, hv17⟩ : ∃ z : Int, z = i + 1 := ⟨_, rfl⟩
          refine dk_iinc (pc' := 62) (ls' := [(4, s), (0, p), (0, r), (0, v16), (0, v17), (0, v10)]) hE dX4_loadOf_59 rfl hv17.symm (by omega) rfl (by decide) rfl ?_
          refine dk_goto (tgt := 17) hE dX4_loadOf_62 (by decide) ?_
          refine dk_drop (ls' := [(4, s), (0, p), (0, r), (0, v16), (0, v17), (9, 0)]) [true, true, true, true, true, false] rfl ?_
          exact ih17 v16 v17 σ17c (by omega) (fun k_ j_ h_ => by rw [hF17 k_ j_ not_false]) (by omega) (by omega)
  exact lp17 _ v4 1 σ (Nat.lt_succ_self _) (fun k_ j_ h_ => rfl) (by omega) (by omega)
set_option maxHeartbeats 4000000 in
set_option maxRecDepth 20000 in
theorem ct_X4_likeness (l : Launch) (G : dkG) (hGd : dk_Gd G) (s a b r : Int) : dk_Ct l G dk_Ty yX4_likeness cX4_likeness 6 (some .int) 2 190 190 (fun av σ => av = [(4, s), (0, a), (0, b), (0, r)] ∧ (dk_sc s) ∧ (GI σ) ∧ (0 ≤ a ∧ a < 12) ∧ (0 ≤ b ∧ b < 12) ∧ (0 ≤ r ∧ r < 2)) (fun _ σ r_ σ' => ∃ z : Int, r_ = some (0, z) ∧ (∀ k_ j_ : Int, ¬ (False) → σ' k_ j_ = σ k_ j_) ∧ (0 ≤ z ∧ z ≤ 32)) := by
  refine dk_enter hGd (by decide) (fun av σ hpre hok => ?_)
  obtain ⟨rfl, hs, hG, ha, hb, hr⟩ := hpre
  refine ⟨Nat.le_of_ble_eq_true rfl, fun E hE hR _ => ?_⟩
  have hi_a : dk_i32 a := dk_oki (hok _ (by simp))
  have hi_b : dk_i32 b := dk_oki (hok _ (by simp))
  have hi_r : dk_i32 r := dk_oki (hok _ (by simp))
  show dk_PJ E 0 [(4, s), (0, a), (0, b), (0, r), (9, 0), (9, 0)] [] 190 σ
  refine dk_iconst (pc' := 1) hE dX4_likeness_0 (by decide) rfl ?_
  refine dk_istore (pc' := 3) (ls' := [(4, s), (0, a), (0, b), (0, r), (0, 0), (9, 0)]) hE dX4_likeness_1 rfl (by decide) rfl ?_
  refine dk_iconst (pc' := 4) hE dX4_likeness_3 (by decide) rfl ?_
  refine dk_istore (pc' := 6) (ls' := [(4, s), (0, a), (0, b), (0, r), (0, 0), (0, 1)]) hE dX4_likeness_4 rfl (by decide) rfl ?_
  have lp6 : ∀ (N_ : Nat) (x i : Int) (σ6c : dkS), (2147483648 - i).toNat < N_ → ((∀ k_ j_ : Int, ¬ (False) → σ6c k_ j_ = σ k_ j_)) → (1 ≤ i ∧ i ≤ 33) → (0 ≤ x ∧ x < i) → dk_PJ E 6 [(4, s), (0, a), (0, b), (0, r), (0, x), (0, i)] [] 190 σ6c := by
    intro N6
    induction N6 with
    | zero => intro x i σ6c hm; exact absurd hm (Nat.not_lt_zero _)
    | succ N6 ih6 =>
      intro x i σ6c hm6 hF6 hi hx
      refine dk_iload (pc' := 8) hE dX4_likeness_6 rfl rfl ?_
      refine dk_aload_n (pc' := 9) hE dX4_likeness_8 rfl rfl rfl ?_
      refine gf_4_5 (pc' := 12) (w := (s + 17)) hE fl_X4_26 dX4_likeness_9 (sc_is hs) rfl rfl ?_
      refine dk_iload_n (pc' := 13) hE dX4_likeness_12 rfl rfl rfl ?_
      refine ga_64 (pc' := 14) hE dX4_likeness_13 (sc_17 hs) (by omega) rfl (fun v1 hv1 htv1 hbv1 => ?_)
      refine dk_icmp_gt (tgt := 56) (pc' := 17) hE dX4_likeness_14 (by decide) rfl (fun hc2 => ?_) (fun hc2 => ?_)
      · skip
        refine dk_iload (pc' := 58) hE dX4_likeness_56 rfl rfl ?_
        exact dk_iret (st := []) hE hR dX4_likeness_58 ⟨_, rfl, (fun k_ j_ h_ => by rw [hF6 k_ j_ not_false]), by omega⟩
      · skip
        refine dk_iload (pc' := 19) hE dX4_likeness_17 rfl rfl ?_
        refine dk_aload_n (pc' := 20) hE dX4_likeness_19 rfl rfl rfl ?_
        refine gf_4_5 (pc' := 23) (w := (s + 17)) hE fl_X4_26 dX4_likeness_20 (sc_is hs) rfl rfl ?_
        refine dk_iload_n (pc' := 24) hE dX4_likeness_23 rfl rfl rfl ?_
        refine ga_64 (pc' := 25) hE dX4_likeness_24 (sc_17 hs) (by omega) rfl (fun v3 hv3 htv3 hbv3 => ?_)
        refine dk_icmp_gt (tgt := 56) (pc' := 28) hE dX4_likeness_25 (by decide) rfl (fun hc4 => ?_) (fun hc4 => ?_)
        · skip
          refine dk_iload (pc' := 58) hE dX4_likeness_56 rfl rfl ?_
          exact dk_iret (st := []) hE hR dX4_likeness_58 ⟨_, rfl, (fun k_ j_ h_ => by rw [hF6 k_ j_ not_false]), by omega⟩
        · skip
          refine dk_aload_n (pc' := 29) hE dX4_likeness_28 rfl rfl rfl ?_
          refine dk_iload_n (pc' := 30) hE dX4_likeness_29 rfl rfl rfl ?_
          refine dk_iload (pc' := 32) hE dX4_likeness_30 rfl rfl ?_
          refine dk_iload_n (pc' := 33) hE dX4_likeness_32 rfl rfl rfl ?_
          have gi5 : GI σ6c := GI_fr hG (fun k_ j_ h_ => by rw [hF6 k_ j_ not_false])
          refine dk_cV (pc' := 36) (as := [(0, a), (0, i), (0, r)]) hE lk_X4_71 (ct_X4_stepAt l G hGd s a i r) dX4_likeness_33 rfl (sc_is hs) rfl (by decide) (Nat.le_of_ble_eq_true rfl) ⟨rfl, (by omega), gi5, (by omega), (by omega)⟩ rfl (fun r7 σ6 hr7 _ => ?_)
          obtain ⟨v8, rfl, hfσ6, hpr7⟩ := hr7
          have hsσ6 : σ6c = σ6 := (funext (fun k => funext (fun j => hfσ6 k j not_false))).symm
          subst hsσ6
          refine dk_aload_n (pc' := 37) hE dX4_likeness_36 rfl rfl rfl ?_
          refine dk_iload_n (pc' := 38) hE dX4_likeness_37 rfl rfl rfl ?_
          refine dk_iload (pc' := 40) hE dX4_likeness_38 rfl rfl ?_
          refine dk_iload_n (pc' := 41) hE dX4_likeness_40 rfl rfl rfl ?_
          refine dk_cV (pc' := 44) (as := [(0, b), (0, i), (0, r)]) hE lk_X4_71 (ct_X4_stepAt l G hGd s b i r) dX4_likeness_41 rfl (sc_is hs) rfl (by decide) (Nat.le_of_ble_eq_true rfl) ⟨rfl, (by omega), gi5, (by omega), (by omega)⟩ rfl (fun r10 σ9 hr10 _ => ?_)
          obtain ⟨v11, rfl, hfσ9, hpr10⟩ := hr10
          have hsσ9 : σ6c = σ9 := (funext (fun k => funext (fun j => hfσ9 k j not_false))).symm
          subst hsσ9
          refine dk_icmp_ne (tgt := 50) (pc' := 47) hE dX4_likeness_44 (by decide) rfl (fun hc12 => ?_) (fun hc12 => ?_)
          · skip
            obtain ⟨v13, hv13⟩ : ∃ z : Int, z = i + 1 := ⟨_, rfl⟩
            refine dk_iinc (pc' := 53) (ls' := [(4, s), (0, a), (0, b), (0, r), (0, x), (0, v13)]) hE dX4_likeness_50 rfl hv13.symm (by omega) rfl (by decide) rfl ?_
            refine dk_goto (tgt := 6) hE dX4_likeness_53 (by decide) ?_
            exact ih6 x v13 σ6c (by omega) (fun k_ j_ h_ => by rw [hF6 k_ j_ not_false]) (by omega) (by omega)
          · skip
            obtain ⟨v14, hv14⟩ : ∃ z : Int, z = x + 1 := ⟨_, rfl⟩
            refine dk_iinc (pc' := 50) (ls' := [(4, s), (0, a), (0, b), (0, r), (0, v14), (0, i)]) hE dX4_likeness_47 rfl hv14.symm (by omega) rfl (by decide) rfl ?_
            obtain ⟨v15, hv15⟩ : ∃ z : Int, z = i + 1 := ⟨_, rfl⟩
            refine dk_iinc (pc' := 53) (ls' := [(4, s), (0, a), (0, b), (0, r), (0, v14), (0, v15)]) hE dX4_likeness_50 rfl hv15.symm (by omega) rfl (by decide) rfl ?_
            refine dk_goto (tgt := 6) hE dX4_likeness_53 (by decide) ?_
            exact ih6 v14 v15 σ6c (by omega) (fun k_ j_ h_ => by rw [hF6 k_ j_ not_false]) (by omega) (by omega)
  exact lp6 _ 0 1 σ (Nat.lt_succ_self _) (fun k_ j_ h_ => rfl) (by omega) (by omega)
set_option maxHeartbeats 4000000 in
set_option maxRecDepth 20000 in
theorem ct_X4_walk (l : Launch) (G : dkG) (hGd : dk_Gd G) (s w c r : Int) : dk_Ct l G dk_Ty yX4_walk cX4_walk 7 (none) 2 190 190 (fun av σ => av = [(4, s), (0, w), (0, c), (0, r)] ∧ (dk_sc s) ∧ (GI σ) ∧ (0 ≤ w ∧ w < 4) ∧ (0 ≤ c) ∧ (0 ≤ r ∧ r < 2)) (fun _ σ r_ σ' => r_ = none ∧ (∀ k_ j_ : Int, ¬ (k_ = s + 1 ∨ k_ = s + 2) → σ' k_ j_ = σ k_ j_) ∧ (True)) := by
  refine dk_enter hGd (by decide) (fun av σ hpre hok => ?_)
  obtain ⟨rfl, hs, hG, hw, hc, hr⟩ := hpre
  refine ⟨Nat.le_of_ble_eq_true rfl, fun E hE hR _ => ?_⟩
  have hi_w : dk_i32 w := dk_oki (hok _ (by simp))
  have hi_c : dk_i32 c := dk_oki (hok _ (by simp))
  have hi_r : dk_i32 r := dk_oki (hok _ (by simp))
  show dk_PJ E 0 [(4, s), (0, w), (0, c), (0, r), (9, 0), (9, 0), (9, 0)] [] 190 σ
  refine dk_iconst (pc' := 1) hE dX4_walk_0 (by decide) rfl ?_
  refine dk_istore (pc' := 3) (ls' := [(4, s), (0, w), (0, c), (0, r), (0, 0), (9, 0), (9, 0)]) hE dX4_walk_1 rfl (by decide) rfl ?_
  have lp3 : ∀ (N_ : Nat) (i : Int) (σ3c : dkS), (2147483648 - i).toNat < N_ → ((∀ k_ j_ : Int, ¬ (k_ = s + 1 ∨ k_ = s + 2) → σ3c k_ j_ = σ k_ j_)) → (GI σ3c) → (0 ≤ i) → dk_PJ E 3 [(4, s), (0, w), (0, c), (0, r), (0, i), (9, 0), (9, 0)] [] 190 σ3c := by
    intro N3
    induction N3 with
    | zero => intro i σ3c hm; exact absurd hm (Nat.not_lt_zero _)
    | succ N3 ih3 =>
      intro i σ3c hm3 hF3 hG3 hi
      refine dk_iload (pc' := 5) hE dX4_walk_3 rfl rfl ?_
      refine dk_aload_n (pc' := 6) hE dX4_walk_5 rfl rfl rfl ?_
      refine gf_4_10 (pc' := 9) (w := (s + 22)) hE fl_X4_42 dX4_walk_6 (sc_is hs) rfl rfl ?_
      refine dk_iload_n (pc' := 10) hE dX4_walk_9 rfl rfl rfl ?_
      refine ga_69 (pc' := 11) hE dX4_walk_10 (sc_22 hs) (by omega) rfl (fun v1 hv1 htv1 hbv1 => ?_)
      refine dk_icmp_ge (tgt := 119) (pc' := 14) hE dX4_walk_11 (by decide) rfl (fun hc2 => ?_) (fun hc2 => ?_)
      · skip
        exact dk_vret (st := []) hE hR dX4_walk_119 ⟨rfl, (fun k_ j_ h_ => by rw [hF3 k_ j_ (fun w_ => h_ (w_.elim (fun x0_ => Or.inl (x0_)) (fun y0_ => Or.inr (y0_))))]), trivial⟩
      · skip
        refine dk_aload_n (pc' := 15) hE dX4_walk_14 rfl rfl rfl ?_
        refine gf_4_9 (pc' := 18) (w := (s + 21)) hE fl_X4_39 dX4_walk_15 (sc_is hs) rfl rfl ?_
        refine dk_iload_n (pc' := 19) hE dX4_walk_18 rfl rfl rfl ?_
        refine ga_68 (pc' := 20) hE dX4_walk_19 (sc_21 hs) (by omega) rfl (fun v3 hv3 htv3 hbv3 => ?_)
        have gv3 := (GI.of hG3 hs).2.1 w hw.1 hw.2
        refine dk_iload (pc' := 22) hE dX4_walk_20 rfl rfl ?_
        obtain ⟨v4, hv4⟩ : ∃ z : Int, z = v3 + i := ⟨_, rfl⟩
        refine dk_iadd (pc' := 23) hE dX4_walk_22 hv4.symm (by omega) rfl ?_
        refine dk_istore (pc' := 25) (ls' := [(4, s), (0, w), (0, c), (0, r), (0, i), (0, v4), (9, 0)]) hE dX4_walk_23 rfl (by decide) rfl ?_
        refine dk_iload_n (pc' := 26) hE dX4_walk_25 rfl rfl rfl ?_
        refine dk_if_ne (tgt := 60) (pc' := 29) hE dX4_walk_26 (by decide) rfl (fun hc5 => ?_) (fun hc5 => ?_)
        · skip
          refine dk_iload_n (pc' := 61) hE dX4_walk_60 rfl rfl rfl ?_
          refine dk_aload_n (pc' := 62) hE dX4_walk_61 rfl rfl rfl ?_
          refine gf_4_5 (pc' := 65) (w := (s + 17)) hE fl_X4_26 dX4_walk_62 (sc_is hs) rfl rfl ?_
          refine dk_iload (pc' := 67) hE dX4_walk_65 rfl rfl ?_
          refine ga_64 (pc' := 68) hE dX4_walk_67 (sc_17 hs) (by omega) rfl (fun v6 hv6 htv6 hbv6 => ?_)
          refine dk_icmp_gt (tgt := 113) (pc' := 71) hE dX4_walk_68 (by decide) rfl (fun hc7 => ?_) (fun hc7 => ?_)
          · skip
            obtain ⟨v8, hv8⟩ : ∃ z : Int, z = i + 1 := ⟨_, rfl⟩
            refine dk_iinc (pc' := 116) (ls' := [(4, s), (0, w), (0, c), (0, r), (0, v8), (0, v4), (9, 0)]) hE dX4_walk_113 rfl hv8.symm (by omega) rfl (by decide) rfl ?_
            refine dk_goto (tgt := 3) hE dX4_walk_116 (by decide) ?_
            refine dk_drop (ls' := [(4, s), (0, w), (0, c), (0, r), (0, v8), (9, 0), (9, 0)]) [true, true, true, true, true, false, false] rfl ?_
            exact ih3 v8 σ3c (by omega) (fun k_ j_ h_ => by rw [hF3 k_ j_ (fun w_ => h_ (w_.elim (fun x0_ => Or.inl (x0_)) (fun y0_ => Or.inr (y0_))))]) hG3 (by omega)
          · skip
            refine dk_aload_n (pc' := 72) hE dX4_walk_71 rfl rfl rfl ?_
            refine dk_iload (pc' := 74) hE dX4_walk_72 rfl rfl ?_
            refine dk_iload_n (pc' := 75) hE dX4_walk_74 rfl rfl rfl ?_
            refine dk_iload_n (pc' := 76) hE dX4_walk_75 rfl rfl rfl ?_
            refine dk_cV (pc' := 79) (as := [(0, v4), (0, c), (0, r)]) hE lk_X4_71 (ct_X4_stepAt l G hGd s v4 c r) dX4_walk_76 rfl (sc_is hs) rfl (by decide) (Nat.le_of_ble_eq_true rfl) ⟨rfl, (by omega), hG3, (by omega), (by omega)⟩ rfl (fun r10 σ9 hr10 _ => ?_)
            obtain ⟨v11, rfl, hfσ9, hpr10⟩ := hr10
            have hsσ9 : σ3c = σ9 := (funext (fun k => funext (fun j => hfσ9 k j not_false))).symm
            subst hsσ9
            refine dk_istore (pc' := 81) (ls' := [(4, s), (0, w), (0, c), (0, r), (0, i), (0, v4), (0, v11)]) hE dX4_walk_79 rfl (by decide) rfl ?_
            refine dk_aload_n (pc' := 82) hE dX4_walk_81 rfl rfl rfl ?_
            refine gf_4_1 (pc' := 85) (w := (s + 1)) hE fl_X4_11 dX4_walk_82 (sc_is hs) rfl rfl ?_
            refine dk_iload (pc' := 87) hE dX4_walk_85 rfl rfl ?_
            refine dk_dup2 (pc' := 88) hE dX4_walk_87 (show (0 : Nat) ≠ 3 by decide) (show (4 : Nat) ≠ 3 by decide) rfl ?_
            refine ga_59 (pc' := 89) hE dX4_walk_88 (sc_1 hs) (by omega) rfl (fun v12 hv12 htv12 hbv12 => ?_)
            refine dk_getsX (pc' := 92) hE wd_924 dX4_walk_89 rfl ?_
            refine dk_iload (pc' := 94) hE dX4_walk_92 rfl rfl ?_
            refine dk_tabX (pc' := 95) hE dX4_walk_94 (by omega) rfl (fun v13 hbv13 => ?_)
            refine dk_iaddW (pc' := 96) hE dX4_walk_95 rfl (fun v14 hv14 _ => ?_)
            refine pa_59 (pc' := 97) hE dX4_walk_96 (sc_1 hs) (by omega) trivial rfl (fun σ15 eσ15 => ?_)
            refine dk_aload_n (pc' := 98) hE dX4_walk_97 rfl rfl rfl ?_
            refine gf_4_2 (pc' := 101) (w := (s + 2)) hE fl_X4_15 dX4_walk_98 (sc_is hs) rfl rfl ?_
            refine dk_iload (pc' := 103) hE dX4_walk_101 rfl rfl ?_
            refine dk_dup2 (pc' := 104) hE dX4_walk_103 (show (0 : Nat) ≠ 3 by decide) (show (4 : Nat) ≠ 3 by decide) rfl ?_
            refine ga_60 (pc' := 105) hE dX4_walk_104 (sc_2 hs) (by omega) rfl (fun v16 hv16 htv16 hbv16 => ?_)
            refine dk_getsY (pc' := 108) hE wd_926 dX4_walk_105 rfl ?_
            refine dk_iload (pc' := 110) hE dX4_walk_108 rfl rfl ?_
            refine dk_tabY (pc' := 111) hE dX4_walk_110 (by omega) rfl (fun v17 hbv17 => ?_)
            refine dk_iaddW (pc' := 112) hE dX4_walk_111 rfl (fun v18 hv18 _ => ?_)
            refine pa_60 (pc' := 113) hE dX4_walk_112 (sc_2 hs) (by omega) trivial rfl (fun σ19 eσ19 => ?_)
            obtain ⟨v20, hv20⟩ : ∃ z : Int, z = i + 1 := ⟨_, rfl⟩
            refine dk_iinc (pc' := 116) (ls' := [(4, s), (0, w), (0, c), (0, r), (0, v20), (0, v4), (0, v11)]) hE dX4_walk_113 rfl hv20.symm (by omega) rfl (by decide) rfl ?_
            refine dk_goto (tgt := 3) hE dX4_walk_116 (by decide) ?_
            refine dk_drop (ls' := [(4, s), (0, w), (0, c), (0, r), (0, v20), (9, 0), (9, 0)]) [true, true, true, true, true, false, false] rfl ?_
            have gi21 : GI σ19 := GI_fr hG3 (fun k_ j_ h_ => by rw [eσ19, dk_up_n (show ¬ (k_ = (s + 2) ∧ j_ = i) by omega), eσ15, dk_up_n (show ¬ (k_ = (s + 1) ∧ j_ = i) by omega)])
            exact ih3 v20 σ19 (by omega) (fun k_ j_ h_ => by rw [eσ19, dk_up_n (show ¬ (k_ = (s + 2) ∧ j_ = i) from fun q_ => h_ (Or.inr (q_.1))), eσ15, dk_up_n (show ¬ (k_ = (s + 1) ∧ j_ = i) from fun q_ => h_ (Or.inl (q_.1))), hF3 k_ j_ (fun w_ => h_ (w_.elim (fun x0_ => Or.inl (x0_)) (fun y0_ => Or.inr (y0_))))]) gi21 (by omega)
        · skip
          refine dk_aload_n (pc' := 30) hE dX4_walk_29 rfl rfl rfl ?_
          refine gf_4_1 (pc' := 33) (w := (s + 1)) hE fl_X4_11 dX4_walk_30 (sc_is hs) rfl rfl ?_
          refine dk_iload (pc' := 35) hE dX4_walk_33 rfl rfl ?_
          refine dk_aload_n (pc' := 36) hE dX4_walk_35 rfl rfl rfl ?_
          refine gf_4_6 (pc' := 39) (w := (s + 18)) hE fl_X4_29 dX4_walk_36 (sc_is hs) rfl rfl ?_
          refine dk_iload (pc' := 41) hE dX4_walk_39 rfl rfl ?_
          refine ga_65 (pc' := 42) hE dX4_walk_41 (sc_18 hs) (by omega) rfl (fun v22 hv22 htv22 hbv22 => ?_)
          refine pa_59 (pc' := 43) hE dX4_walk_42 (sc_1 hs) (by omega) trivial rfl (fun σ23 eσ23 => ?_)
          refine dk_aload_n (pc' := 44) hE dX4_walk_43 rfl rfl rfl ?_
          refine gf_4_2 (pc' := 47) (w := (s + 2)) hE fl_X4_15 dX4_walk_44 (sc_is hs) rfl rfl ?_
          refine dk_iload (pc' := 49) hE dX4_walk_47 rfl rfl ?_
          refine dk_aload_n (pc' := 50) hE dX4_walk_49 rfl rfl rfl ?_
          refine gf_4_7 (pc' := 53) (w := (s + 19)) hE fl_X4_32 dX4_walk_50 (sc_is hs) rfl rfl ?_
          refine dk_iload (pc' := 55) hE dX4_walk_53 rfl rfl ?_
          refine ga_66 (pc' := 56) hE dX4_walk_55 (sc_19 hs) (by omega) rfl (fun v24 hv24 htv24 hbv24 => ?_)
          refine pa_60 (pc' := 57) hE dX4_walk_56 (sc_2 hs) (by omega) trivial rfl (fun σ25 eσ25 => ?_)
          refine dk_goto (tgt := 113) hE dX4_walk_57 (by decide) ?_
          obtain ⟨v26, hv26⟩ : ∃ z : Int, z = i + 1 := ⟨_, rfl⟩
          refine dk_iinc (pc' := 116) (ls' := [(4, s), (0, w), (0, c), (0, r), (0, v26), (0, v4), (9, 0)]) hE dX4_walk_113 rfl hv26.symm (by omega) rfl (by decide) rfl ?_
          refine dk_goto (tgt := 3) hE dX4_walk_116 (by decide) ?_
          refine dk_drop (ls' := [(4, s), (0, w), (0, c), (0, r), (0, v26), (9, 0), (9, 0)]) [true, true, true, true, true, false, false] rfl ?_
          have gi27 : GI σ25 := GI_fr hG3 (fun k_ j_ h_ => by rw [eσ25, dk_up_n (show ¬ (k_ = (s + 2) ∧ j_ = i) by omega), eσ23, dk_up_n (show ¬ (k_ = (s + 1) ∧ j_ = i) by omega)])
          exact ih3 v26 σ25 (by omega) (fun k_ j_ h_ => by rw [eσ25, dk_up_n (show ¬ (k_ = (s + 2) ∧ j_ = i) from fun q_ => h_ (Or.inr (q_.1))), eσ23, dk_up_n (show ¬ (k_ = (s + 1) ∧ j_ = i) from fun q_ => h_ (Or.inl (q_.1))), hF3 k_ j_ (fun w_ => h_ (w_.elim (fun x0_ => Or.inl (x0_)) (fun y0_ => Or.inr (y0_))))]) gi27 (by omega)
  exact lp3 _ 0 σ (Nat.lt_succ_self _) (fun k_ j_ h_ => rfl) hG (by omega)
set_option maxHeartbeats 4000000 in
set_option maxRecDepth 20000 in
theorem ct_X4_twoTogether (l : Launch) (G : dkG) (hGd : dk_Gd G) (s n : Int) : dk_Ct l G dk_Ty yX4_twoTogether cX4_twoTogether 4 (some .boolean) 1 190 190 (fun av σ => av = [(4, s), (0, n)] ∧ (dk_sc s) ∧ (0 ≤ n ∧ n ≤ 8)) (fun _ σ r_ σ' => ∃ z : Int, r_ = some (0, z) ∧ (∀ k_ j_ : Int, ¬ (False) → σ' k_ j_ = σ k_ j_) ∧ (0 ≤ z ∧ z ≤ 1)) := by
  refine dk_enter hGd (by decide) (fun av σ hpre hok => ?_)
  obtain ⟨rfl, hs, hn⟩ := hpre
  refine ⟨Nat.le_of_ble_eq_true rfl, fun E hE hR _ => ?_⟩
  have hi_n : dk_i32 n := dk_oki (hok _ (by simp))
  show dk_PJ E 0 [(4, s), (0, n), (9, 0), (9, 0)] [] 190 σ
  refine dk_iconst (pc' := 1) hE dX4_twoTogether_0 (by decide) rfl ?_
  refine dk_istore_n (pc' := 2) (ls' := [(4, s), (0, n), (0, 0), (9, 0)]) hE dX4_twoTogether_1 rfl rfl (by decide) rfl ?_
  have lp2 : ∀ (N_ : Nat) (i : Int) (σ2c : dkS), (2147483648 - i).toNat < N_ → ((∀ k_ j_ : Int, ¬ (False) → σ2c k_ j_ = σ k_ j_)) → (0 ≤ i) → dk_PJ E 2 [(4, s), (0, n), (0, i), (9, 0)] [] 190 σ2c := by
    intro N2
    induction N2 with
    | zero => intro i σ2c hm; exact absurd hm (Nat.not_lt_zero _)
    | succ N2 ih2 =>
      intro i σ2c hm2 hF2 hi
      refine dk_iload_n (pc' := 3) hE dX4_twoTogether_2 rfl rfl rfl ?_
      refine dk_iload_n (pc' := 4) hE dX4_twoTogether_3 rfl rfl rfl ?_
      refine dk_icmp_ge (tgt := 60) (pc' := 7) hE dX4_twoTogether_4 (by decide) rfl (fun hc1 => ?_) (fun hc1 => ?_)
      · skip
        refine dk_iconst (pc' := 61) hE dX4_twoTogether_60 (by decide) rfl ?_
        exact dk_zret (st := []) hE hR dX4_twoTogether_61 (by omega) ⟨_, rfl, (fun k_ j_ h_ => by rw [hF2 k_ j_ not_false]), by omega⟩
      · skip
        refine dk_iload_n (pc' := 8) hE dX4_twoTogether_7 rfl rfl rfl ?_
        refine dk_iconst (pc' := 9) hE dX4_twoTogether_8 (by decide) rfl ?_
        obtain ⟨v2, hv2⟩ : ∃ z : Int, z = i + 1 := ⟨_, rfl⟩
        refine dk_iadd (pc' := 10) hE dX4_twoTogether_9 hv2.symm (by omega) rfl ?_
        refine dk_istore_n (pc' := 11) (ls' := [(4, s), (0, n), (0, i), (0, v2)]) hE dX4_twoTogether_10 rfl rfl (by decide) rfl ?_
        have lp11 : ∀ (N_ : Nat) (j : Int) (σ11c : dkS), (2147483648 - j).toNat < N_ → ((∀ k_ j_ : Int, ¬ (False) → σ11c k_ j_ = σ2c k_ j_)) → (0 ≤ j) → dk_PJ E 11 [(4, s), (0, n), (0, i), (0, j)] [] 190 σ11c := by
          intro N11
          induction N11 with
          | zero => intro j σ11c hm; exact absurd hm (Nat.not_lt_zero _)
          | succ N11 ih11 =>
            intro j σ11c hm11 hF11 hj
            refine dk_iload_n (pc' := 12) hE dX4_twoTogether_11 rfl rfl rfl ?_
            refine dk_iload_n (pc' := 13) hE dX4_twoTogether_12 rfl rfl rfl ?_
            refine dk_icmp_ge (tgt := 54) (pc' := 16) hE dX4_twoTogether_13 (by decide) rfl (fun hc3 => ?_) (fun hc3 => ?_)
            · skip
              obtain ⟨v4, hv4⟩ : ∃ z : Int, z = i + 1 := ⟨_, rfl⟩
              refine dk_iinc (pc' := 57) (ls' := [(4, s), (0, n), (0, v4), (0, j)]) hE dX4_twoTogether_54 rfl hv4.symm (by omega) rfl (by decide) rfl ?_
              refine dk_goto (tgt := 2) hE dX4_twoTogether_57 (by decide) ?_
              refine dk_drop (ls' := [(4, s), (0, n), (0, v4), (9, 0)]) [true, true, true, false] rfl ?_
              exact ih2 v4 σ11c (by omega) (fun k_ j_ h_ => by rw [hF11 k_ j_ not_false, hF2 k_ j_ not_false]) (by omega)
            · skip
              refine dk_aload_n (pc' := 17) hE dX4_twoTogether_16 rfl rfl rfl ?_
              refine gf_4_1 (pc' := 20) (w := (s + 1)) hE fl_X4_11 dX4_twoTogether_17 (sc_is hs) rfl rfl ?_
              refine dk_iload_n (pc' := 21) hE dX4_twoTogether_20 rfl rfl rfl ?_
              refine ga_59 (pc' := 22) hE dX4_twoTogether_21 (sc_1 hs) (by omega) rfl (fun v5 hv5 htv5 hbv5 => ?_)
              refine dk_aload_n (pc' := 23) hE dX4_twoTogether_22 rfl rfl rfl ?_
              refine gf_4_1 (pc' := 26) (w := (s + 1)) hE fl_X4_11 dX4_twoTogether_23 (sc_is hs) rfl rfl ?_
              refine dk_iload_n (pc' := 27) hE dX4_twoTogether_26 rfl rfl rfl ?_
              refine ga_59 (pc' := 28) hE dX4_twoTogether_27 (sc_1 hs) (by omega) rfl (fun v6 hv6 htv6 hbv6 => ?_)
              refine dk_icmp_ne (tgt := 48) (pc' := 31) hE dX4_twoTogether_28 (by decide) rfl (fun hc7 => ?_) (fun hc7 => ?_)
              · skip
                obtain ⟨v8, hv8⟩ : ∃ z : Int, z = j + 1 := ⟨_, rfl⟩
                refine dk_iinc (pc' := 51) (ls' := [(4, s), (0, n), (0, i), (0, v8)]) hE dX4_twoTogether_48 rfl hv8.symm (by omega) rfl (by decide) rfl ?_
                refine dk_goto (tgt := 11) hE dX4_twoTogether_51 (by decide) ?_
                exact ih11 v8 σ11c (by omega) (fun k_ j_ h_ => by rw [hF11 k_ j_ not_false]) (by omega)
              · skip
                refine dk_aload_n (pc' := 32) hE dX4_twoTogether_31 rfl rfl rfl ?_
                refine gf_4_2 (pc' := 35) (w := (s + 2)) hE fl_X4_15 dX4_twoTogether_32 (sc_is hs) rfl rfl ?_
                refine dk_iload_n (pc' := 36) hE dX4_twoTogether_35 rfl rfl rfl ?_
                refine ga_60 (pc' := 37) hE dX4_twoTogether_36 (sc_2 hs) (by omega) rfl (fun v9 hv9 htv9 hbv9 => ?_)
                refine dk_aload_n (pc' := 38) hE dX4_twoTogether_37 rfl rfl rfl ?_
                refine gf_4_2 (pc' := 41) (w := (s + 2)) hE fl_X4_15 dX4_twoTogether_38 (sc_is hs) rfl rfl ?_
                refine dk_iload_n (pc' := 42) hE dX4_twoTogether_41 rfl rfl rfl ?_
                refine ga_60 (pc' := 43) hE dX4_twoTogether_42 (sc_2 hs) (by omega) rfl (fun v10 hv10 htv10 hbv10 => ?_)
                refine dk_icmp_ne (tgt := 48) (pc' := 46) hE dX4_twoTogether_43 (by decide) rfl (fun hc11 => ?_) (fun hc11 => ?_)
                · skip
                  obtain ⟨v12, hv12⟩ : ∃ z : Int, z = j + 1 := ⟨_, rfl⟩
                  refine dk_iinc (pc' := 51) (ls' := [(4, s), (0, n), (0, i), (0, v12)]) hE dX4_twoTogether_48 rfl hv12.symm (by omega) rfl (by decide) rfl ?_
                  refine dk_goto (tgt := 11) hE dX4_twoTogether_51 (by decide) ?_
                  exact ih11 v12 σ11c (by omega) (fun k_ j_ h_ => by rw [hF11 k_ j_ not_false]) (by omega)
                · skip
                  refine dk_iconst (pc' := 47) hE dX4_twoTogether_46 (by decide) rfl ?_
                  exact dk_zret (st := []) hE hR dX4_twoTogether_47 (by omega) ⟨_, rfl, (fun k_ j_ h_ => by rw [hF11 k_ j_ not_false, hF2 k_ j_ not_false]), by omega⟩
        exact lp11 _ v2 σ2c (Nat.lt_succ_self _) (fun k_ j_ h_ => rfl) (by omega)
  exact lp2 _ 0 σ (Nat.lt_succ_self _) (fun k_ j_ h_ => rfl) (by omega)
set_option maxHeartbeats 4000000 in
set_option maxRecDepth 20000 in
theorem ct_X4_oneOutside (l : Launch) (G : dkG) (hGd : dk_Gd G) (s n a b : Int) : dk_Ct l G dk_Ty yX4_oneOutside cX4_oneOutside 5 (some .boolean) 1 190 190 (fun av σ => av = [(4, s), (0, n), (0, a), (0, b)] ∧ (dk_sc s) ∧ (0 ≤ n ∧ n ≤ 8)) (fun _ σ r_ σ' => ∃ z : Int, r_ = some (0, z) ∧ (∀ k_ j_ : Int, ¬ (False) → σ' k_ j_ = σ k_ j_) ∧ (0 ≤ z ∧ z ≤ 1)) := by
  refine dk_enter hGd (by decide) (fun av σ hpre hok => ?_)
  obtain ⟨rfl, hs, hn⟩ := hpre
  refine ⟨Nat.le_of_ble_eq_true rfl, fun E hE hR _ => ?_⟩
  have hi_n : dk_i32 n := dk_oki (hok _ (by simp))
  have hi_a : dk_i32 a := dk_oki (hok _ (by simp))
  have hi_b : dk_i32 b := dk_oki (hok _ (by simp))
  show dk_PJ E 0 [(4, s), (0, n), (0, a), (0, b), (9, 0)] [] 190 σ
  refine dk_iconst (pc' := 1) hE dX4_oneOutside_0 (by decide) rfl ?_
  refine dk_istore (pc' := 3) (ls' := [(4, s), (0, n), (0, a), (0, b), (0, 0)]) hE dX4_oneOutside_1 rfl (by decide) rfl ?_
  have lp3 : ∀ (N_ : Nat) (i : Int) (σ3c : dkS), (2147483648 - i).toNat < N_ → ((∀ k_ j_ : Int, ¬ (False) → σ3c k_ j_ = σ k_ j_)) → (0 ≤ i) → dk_PJ E 3 [(4, s), (0, n), (0, a), (0, b), (0, i)] [] 190 σ3c := by
    intro N3
    induction N3 with
    | zero => intro i σ3c hm; exact absurd hm (Nat.not_lt_zero _)
    | succ N3 ih3 =>
      intro i σ3c hm3 hF3 hi
      refine dk_iload (pc' := 5) hE dX4_oneOutside_3 rfl rfl ?_
      refine dk_iload_n (pc' := 6) hE dX4_oneOutside_5 rfl rfl rfl ?_
      refine dk_icmp_ge (tgt := 59) (pc' := 9) hE dX4_oneOutside_6 (by decide) rfl (fun hc1 => ?_) (fun hc1 => ?_)
      · skip
        refine dk_iconst (pc' := 60) hE dX4_oneOutside_59 (by decide) rfl ?_
        exact dk_zret (st := []) hE hR dX4_oneOutside_60 (by omega) ⟨_, rfl, (fun k_ j_ h_ => by rw [hF3 k_ j_ not_false]), by omega⟩
      · skip
        refine dk_aload_n (pc' := 10) hE dX4_oneOutside_9 rfl rfl rfl ?_
        refine gf_4_1 (pc' := 13) (w := (s + 1)) hE fl_X4_11 dX4_oneOutside_10 (sc_is hs) rfl rfl ?_
        refine dk_iload (pc' := 15) hE dX4_oneOutside_13 rfl rfl ?_
        refine ga_59 (pc' := 16) hE dX4_oneOutside_15 (sc_1 hs) (by omega) rfl (fun v2 hv2 htv2 hbv2 => ?_)
        refine dk_if_lt (tgt := 51) (pc' := 19) hE dX4_oneOutside_16 (by decide) rfl (fun hc3 => ?_) (fun hc3 => ?_)
        · skip
          refine dk_iconst (pc' := 52) hE dX4_oneOutside_51 (by decide) rfl ?_
          exact dk_zret (st := []) hE hR dX4_oneOutside_52 (by omega) ⟨_, rfl, (fun k_ j_ h_ => by rw [hF3 k_ j_ not_false]), by omega⟩
        · skip
          refine dk_aload_n (pc' := 20) hE dX4_oneOutside_19 rfl rfl rfl ?_
          refine gf_4_1 (pc' := 23) (w := (s + 1)) hE fl_X4_11 dX4_oneOutside_20 (sc_is hs) rfl rfl ?_
          refine dk_iload (pc' := 25) hE dX4_oneOutside_23 rfl rfl ?_
          refine ga_59 (pc' := 26) hE dX4_oneOutside_25 (sc_1 hs) (by omega) rfl (fun v4 hv4 htv4 hbv4 => ?_)
          have hq4 : v2 = v4 := (show v4 = v2 by rw [hv4, hv2]).symm
          subst hq4
          clear htv4 hbv4
          refine dk_iload_n (pc' := 27) hE dX4_oneOutside_26 rfl rfl rfl ?_
          refine dk_icmp_ge (tgt := 51) (pc' := 30) hE dX4_oneOutside_27 (by decide) rfl (fun hc5 => ?_) (fun hc5 => ?_)
          · skip
            refine dk_iconst (pc' := 52) hE dX4_oneOutside_51 (by decide) rfl ?_
            exact dk_zret (st := []) hE hR dX4_oneOutside_52 (by omega) ⟨_, rfl, (fun k_ j_ h_ => by rw [hF3 k_ j_ not_false]), by omega⟩
          · skip
            refine dk_aload_n (pc' := 31) hE dX4_oneOutside_30 rfl rfl rfl ?_
            refine gf_4_2 (pc' := 34) (w := (s + 2)) hE fl_X4_15 dX4_oneOutside_31 (sc_is hs) rfl rfl ?_
            refine dk_iload (pc' := 36) hE dX4_oneOutside_34 rfl rfl ?_
            refine ga_60 (pc' := 37) hE dX4_oneOutside_36 (sc_2 hs) (by omega) rfl (fun v6 hv6 htv6 hbv6 => ?_)
            refine dk_if_lt (tgt := 51) (pc' := 40) hE dX4_oneOutside_37 (by decide) rfl (fun hc7 => ?_) (fun hc7 => ?_)
            · skip
              refine dk_iconst (pc' := 52) hE dX4_oneOutside_51 (by decide) rfl ?_
              exact dk_zret (st := []) hE hR dX4_oneOutside_52 (by omega) ⟨_, rfl, (fun k_ j_ h_ => by rw [hF3 k_ j_ not_false]), by omega⟩
            · skip
              refine dk_aload_n (pc' := 41) hE dX4_oneOutside_40 rfl rfl rfl ?_
              refine gf_4_2 (pc' := 44) (w := (s + 2)) hE fl_X4_15 dX4_oneOutside_41 (sc_is hs) rfl rfl ?_
              refine dk_iload (pc' := 46) hE dX4_oneOutside_44 rfl rfl ?_
              refine ga_60 (pc' := 47) hE dX4_oneOutside_46 (sc_2 hs) (by omega) rfl (fun v8 hv8 htv8 hbv8 => ?_)
              have hq8 : v6 = v8 := (show v8 = v6 by rw [hv8, hv6]).symm
              subst hq8
              clear htv8 hbv8
              refine dk_iload_n (pc' := 48) hE dX4_oneOutside_47 rfl rfl rfl ?_
              refine dk_icmp_lt (tgt := 53) (pc' := 51) hE dX4_oneOutside_48 (by decide) rfl (fun hc9 => ?_) (fun hc9 => ?_)
              · skip
                obtain ⟨v10, hv10⟩ : ∃ z : Int, z = i + 1 := ⟨_, rfl⟩
                refine dk_iinc (pc' := 56) (ls' := [(4, s), (0, n), (0, a), (0, b), (0, v10)]) hE dX4_oneOutside_53 rfl hv10.symm (by omega) rfl (by decide) rfl ?_
                refine dk_goto (tgt := 3) hE dX4_oneOutside_56 (by decide) ?_
                exact ih3 v10 σ3c (by omega) (fun k_ j_ h_ => by rw [hF3 k_ j_ not_false]) (by omega)
              · skip
                refine dk_iconst (pc' := 52) hE dX4_oneOutside_51 (by decide) rfl ?_
                exact dk_zret (st := []) hE hR dX4_oneOutside_52 (by omega) ⟨_, rfl, (fun k_ j_ h_ => by rw [hF3 k_ j_ not_false]), by omega⟩
  exact lp3 _ 0 σ (Nat.lt_succ_self _) (fun k_ j_ h_ => rfl) (by omega)
set_option maxHeartbeats 4000000 in
set_option maxRecDepth 20000 in
theorem ct_X4_firstMeeting (l : Launch) (G : dkG) (hGd : dk_Gd G) (s w r : Int) : dk_Ct l G dk_Ty yX4_firstMeeting cX4_firstMeeting 4 (some .int) 3 190 190 (fun av σ => av = [(4, s), (0, w), (0, r)] ∧ (dk_sc s) ∧ (GI σ) ∧ (0 ≤ w ∧ w < 4) ∧ (0 ≤ r ∧ r < 2)) (fun _ σ r_ σ' => ∃ z : Int, r_ = some (0, z) ∧ (∀ k_ j_ : Int, ¬ (k_ = s + 1 ∨ k_ = s + 2) → σ' k_ j_ = σ k_ j_) ∧ (True)) := by
  refine dk_enter hGd (by decide) (fun av σ hpre hok => ?_)
  obtain ⟨rfl, hs, hG, hw, hr⟩ := hpre
  refine ⟨Nat.le_of_ble_eq_true rfl, fun E hE hR _ => ?_⟩
  have hi_w : dk_i32 w := dk_oki (hok _ (by simp))
  have hi_r : dk_i32 r := dk_oki (hok _ (by simp))
  show dk_PJ E 0 [(4, s), (0, w), (0, r), (9, 0)] [] 190 σ
  refine dk_iconst (pc' := 1) hE dX4_firstMeeting_0 (by decide) rfl ?_
  refine dk_istore_n (pc' := 2) (ls' := [(4, s), (0, w), (0, r), (0, 0)]) hE dX4_firstMeeting_1 rfl rfl (by decide) rfl ?_
  have lp2 : ∀ (N_ : Nat) (i : Int) (σ2c : dkS), (2147483648 - i).toNat < N_ → ((∀ k_ j_ : Int, ¬ (k_ = s + 1 ∨ k_ = s + 2) → σ2c k_ j_ = σ k_ j_)) → (GI σ2c) → (0 ≤ i) → dk_PJ E 2 [(4, s), (0, w), (0, r), (0, i)] [] 190 σ2c := by
    intro N2
    induction N2 with
    | zero => intro i σ2c hm; exact absurd hm (Nat.not_lt_zero _)
    | succ N2 ih2 =>
      intro i σ2c hm2 hF2 hG2 hi
      refine dk_iload_n (pc' := 3) hE dX4_firstMeeting_2 rfl rfl rfl ?_
      refine dk_bipush (pc' := 5) hE dX4_firstMeeting_3 (by decide) rfl ?_
      refine dk_icmp_gt (tgt := 36) (pc' := 8) hE dX4_firstMeeting_5 (by decide) rfl (fun hc1 => ?_) (fun hc1 => ?_)
      · skip
        refine dk_iconst (pc' := 37) hE dX4_firstMeeting_36 (by decide) rfl ?_
        exact dk_iret (st := []) hE hR dX4_firstMeeting_37 ⟨_, rfl, (fun k_ j_ h_ => by rw [hF2 k_ j_ (fun w_ => h_ (w_.elim (fun x0_ => Or.inl (x0_)) (fun y0_ => Or.inr (y0_))))]), trivial⟩
      · skip
        refine dk_aload_n (pc' := 9) hE dX4_firstMeeting_8 rfl rfl rfl ?_
        refine dk_iload_n (pc' := 10) hE dX4_firstMeeting_9 rfl rfl rfl ?_
        refine dk_iload_n (pc' := 11) hE dX4_firstMeeting_10 rfl rfl rfl ?_
        refine dk_iload_n (pc' := 12) hE dX4_firstMeeting_11 rfl rfl rfl ?_
        refine dk_cV (pc' := 15) (as := [(0, w), (0, i), (0, r)]) hE lk_X4_81 (ct_X4_walk l G hGd s w i r) dX4_firstMeeting_12 rfl (sc_is hs) rfl (by decide) (Nat.le_of_ble_eq_true rfl) ⟨rfl, (by omega), hG2, (by omega), (by omega), (by omega)⟩ rfl (fun r3 σ2 hr3 _ => ?_)
        obtain ⟨rfl, hfσ2, hpr3⟩ := hr3
        refine dk_aload_n (pc' := 16) hE dX4_firstMeeting_15 rfl rfl rfl ?_
        refine dk_aload_n (pc' := 17) hE dX4_firstMeeting_16 rfl rfl rfl ?_
        refine gf_4_10 (pc' := 20) (w := (s + 22)) hE fl_X4_42 dX4_firstMeeting_17 (sc_is hs) rfl rfl ?_
        refine dk_iload_n (pc' := 21) hE dX4_firstMeeting_20 rfl rfl rfl ?_
        refine ga_69 (pc' := 22) hE dX4_firstMeeting_21 (sc_22 hs) (by omega) rfl (fun v4 hv4 htv4 hbv4 => ?_)
        refine dk_cV (pc' := 25) (as := [(0, v4)]) hE lk_X4_85 (ct_X4_twoTogether l G hGd s v4) dX4_firstMeeting_22 rfl (sc_is hs) rfl (by decide) (Nat.le_of_ble_eq_true rfl) ⟨rfl, (by omega), (by omega)⟩ rfl (fun r6 σ5 hr6 _ => ?_)
        obtain ⟨v7, rfl, hfσ5, hpr6⟩ := hr6
        have hsσ5 : σ2 = σ5 := (funext (fun k => funext (fun j => hfσ5 k j not_false))).symm
        subst hsσ5
        refine dk_if_eq (tgt := 30) (pc' := 28) hE dX4_firstMeeting_25 (by decide) rfl (fun hc8 => ?_) (fun hc8 => ?_)
        · skip
          obtain ⟨v9, hv9⟩ : ∃ z : Int, z = i + 1 := ⟨_, rfl⟩
          refine dk_iinc (pc' := 33) (ls' := [(4, s), (0, w), (0, r), (0, v9)]) hE dX4_firstMeeting_30 rfl hv9.symm (by omega) rfl (by decide) rfl ?_
          refine dk_goto (tgt := 2) hE dX4_firstMeeting_33 (by decide) ?_
          have gi10 : GI σ2 := GI_fr hG2 (fun k_ j_ h_ => by rw [hfσ2 k_ j_ (by omega)])
          exact ih2 v9 σ2 (by omega) (fun k_ j_ h_ => by rw [hfσ2 k_ j_ (fun w_ => h_ (w_.elim (fun x0_ => Or.inl (x0_)) (fun y0_ => Or.inr (y0_)))), hF2 k_ j_ (fun w_ => h_ (w_.elim (fun x0_ => Or.inl (x0_)) (fun y0_ => Or.inr (y0_))))]) gi10 (by omega)
        · skip
          refine dk_iload_n (pc' := 29) hE dX4_firstMeeting_28 rfl rfl rfl ?_
          exact dk_iret (st := []) hE hR dX4_firstMeeting_29 ⟨_, rfl, (fun k_ j_ h_ => by rw [hfσ2 k_ j_ (fun w_ => h_ (w_.elim (fun x0_ => Or.inl (x0_)) (fun y0_ => Or.inr (y0_)))), hF2 k_ j_ (fun w_ => h_ (w_.elim (fun x0_ => Or.inl (x0_)) (fun y0_ => Or.inr (y0_))))]), trivial⟩
  exact lp2 _ 0 σ (Nat.lt_succ_self _) (fun k_ j_ h_ => rfl) hG (by omega)
set_option maxHeartbeats 4000000 in
set_option maxRecDepth 20000 in
theorem ct_X4_firstBreak (l : Launch) (G : dkG) (hGd : dk_Gd G) (s w r a b : Int) : dk_Ct l G dk_Ty yX4_firstBreak cX4_firstBreak 6 (some .int) 3 190 190 (fun av σ => av = [(4, s), (0, w), (0, r), (0, a), (0, b)] ∧ (dk_sc s) ∧ (GI σ) ∧ (0 ≤ w ∧ w < 4) ∧ (0 ≤ r ∧ r < 2)) (fun _ σ r_ σ' => ∃ z : Int, r_ = some (0, z) ∧ (∀ k_ j_ : Int, ¬ (k_ = s + 1 ∨ k_ = s + 2) → σ' k_ j_ = σ k_ j_) ∧ (True)) := by
  refine dk_enter hGd (by decide) (fun av σ hpre hok => ?_)
  obtain ⟨rfl, hs, hG, hw, hr⟩ := hpre
  refine ⟨Nat.le_of_ble_eq_true rfl, fun E hE hR _ => ?_⟩
  have hi_w : dk_i32 w := dk_oki (hok _ (by simp))
  have hi_r : dk_i32 r := dk_oki (hok _ (by simp))
  have hi_a : dk_i32 a := dk_oki (hok _ (by simp))
  have hi_b : dk_i32 b := dk_oki (hok _ (by simp))
  show dk_PJ E 0 [(4, s), (0, w), (0, r), (0, a), (0, b), (9, 0)] [] 190 σ
  refine dk_iconst (pc' := 1) hE dX4_firstBreak_0 (by decide) rfl ?_
  refine dk_istore (pc' := 3) (ls' := [(4, s), (0, w), (0, r), (0, a), (0, b), (0, 0)]) hE dX4_firstBreak_1 rfl (by decide) rfl ?_
  have lp3 : ∀ (N_ : Nat) (i : Int) (σ3c : dkS), (2147483648 - i).toNat < N_ → ((∀ k_ j_ : Int, ¬ (k_ = s + 1 ∨ k_ = s + 2) → σ3c k_ j_ = σ k_ j_)) → (GI σ3c) → (0 ≤ i) → dk_PJ E 3 [(4, s), (0, w), (0, r), (0, a), (0, b), (0, i)] [] 190 σ3c := by
    intro N3
    induction N3 with
    | zero => intro i σ3c hm; exact absurd hm (Nat.not_lt_zero _)
    | succ N3 ih3 =>
      intro i σ3c hm3 hF3 hG3 hi
      refine dk_iload (pc' := 5) hE dX4_firstBreak_3 rfl rfl ?_
      refine dk_bipush (pc' := 7) hE dX4_firstBreak_5 (by decide) rfl ?_
      refine dk_icmp_gt (tgt := 43) (pc' := 10) hE dX4_firstBreak_7 (by decide) rfl (fun hc1 => ?_) (fun hc1 => ?_)
      · skip
        refine dk_iconst (pc' := 44) hE dX4_firstBreak_43 (by decide) rfl ?_
        exact dk_iret (st := []) hE hR dX4_firstBreak_44 ⟨_, rfl, (fun k_ j_ h_ => by rw [hF3 k_ j_ (fun w_ => h_ (w_.elim (fun x0_ => Or.inl (x0_)) (fun y0_ => Or.inr (y0_))))]), trivial⟩
      · skip
        refine dk_aload_n (pc' := 11) hE dX4_firstBreak_10 rfl rfl rfl ?_
        refine dk_iload_n (pc' := 12) hE dX4_firstBreak_11 rfl rfl rfl ?_
        refine dk_iload (pc' := 14) hE dX4_firstBreak_12 rfl rfl ?_
        refine dk_iload_n (pc' := 15) hE dX4_firstBreak_14 rfl rfl rfl ?_
        refine dk_cV (pc' := 18) (as := [(0, w), (0, i), (0, r)]) hE lk_X4_81 (ct_X4_walk l G hGd s w i r) dX4_firstBreak_15 rfl (sc_is hs) rfl (by decide) (Nat.le_of_ble_eq_true rfl) ⟨rfl, (by omega), hG3, (by omega), (by omega), (by omega)⟩ rfl (fun r3 σ2 hr3 _ => ?_)
        obtain ⟨rfl, hfσ2, hpr3⟩ := hr3
        refine dk_aload_n (pc' := 19) hE dX4_firstBreak_18 rfl rfl rfl ?_
        refine dk_aload_n (pc' := 20) hE dX4_firstBreak_19 rfl rfl rfl ?_
        refine gf_4_10 (pc' := 23) (w := (s + 22)) hE fl_X4_42 dX4_firstBreak_20 (sc_is hs) rfl rfl ?_
        refine dk_iload_n (pc' := 24) hE dX4_firstBreak_23 rfl rfl rfl ?_
        refine ga_69 (pc' := 25) hE dX4_firstBreak_24 (sc_22 hs) (by omega) rfl (fun v4 hv4 htv4 hbv4 => ?_)
        refine dk_iload_n (pc' := 26) hE dX4_firstBreak_25 rfl rfl rfl ?_
        refine dk_iload (pc' := 28) hE dX4_firstBreak_26 rfl rfl ?_
        refine dk_cV (pc' := 31) (as := [(0, v4), (0, a), (0, b)]) hE lk_X4_88 (ct_X4_oneOutside l G hGd s v4 a b) dX4_firstBreak_28 rfl (sc_is hs) rfl (by decide) (Nat.le_of_ble_eq_true rfl) ⟨rfl, (by omega), (by omega)⟩ rfl (fun r6 σ5 hr6 _ => ?_)
        obtain ⟨v7, rfl, hfσ5, hpr6⟩ := hr6
        have hsσ5 : σ2 = σ5 := (funext (fun k => funext (fun j => hfσ5 k j not_false))).symm
        subst hsσ5
        refine dk_if_eq (tgt := 37) (pc' := 34) hE dX4_firstBreak_31 (by decide) rfl (fun hc8 => ?_) (fun hc8 => ?_)
        · skip
          obtain ⟨v9, hv9⟩ : ∃ z : Int, z = i + 1 := ⟨_, rfl⟩
          refine dk_iinc (pc' := 40) (ls' := [(4, s), (0, w), (0, r), (0, a), (0, b), (0, v9)]) hE dX4_firstBreak_37 rfl hv9.symm (by omega) rfl (by decide) rfl ?_
          refine dk_goto (tgt := 3) hE dX4_firstBreak_40 (by decide) ?_
          have gi10 : GI σ2 := GI_fr hG3 (fun k_ j_ h_ => by rw [hfσ2 k_ j_ (by omega)])
          exact ih3 v9 σ2 (by omega) (fun k_ j_ h_ => by rw [hfσ2 k_ j_ (fun w_ => h_ (w_.elim (fun x0_ => Or.inl (x0_)) (fun y0_ => Or.inr (y0_)))), hF3 k_ j_ (fun w_ => h_ (w_.elim (fun x0_ => Or.inl (x0_)) (fun y0_ => Or.inr (y0_))))]) gi10 (by omega)
        · skip
          refine dk_iload (pc' := 36) hE dX4_firstBreak_34 rfl rfl ?_
          exact dk_iret (st := []) hE hR dX4_firstBreak_36 ⟨_, rfl, (fun k_ j_ h_ => by rw [hfσ2 k_ j_ (fun w_ => h_ (w_.elim (fun x0_ => Or.inl (x0_)) (fun y0_ => Or.inr (y0_)))), hF3 k_ j_ (fun w_ => h_ (w_.elim (fun x0_ => Or.inl (x0_)) (fun y0_ => Or.inr (y0_))))]), trivial⟩
  exact lp3 _ 0 σ (Nat.lt_succ_self _) (fun k_ j_ h_ => rfl) hG (by omega)
