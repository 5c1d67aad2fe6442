set_option maxHeartbeats 4000000 in
set_option maxRecDepth 20000 in
theorem ct_X11_sign (l : Launch) (G : dkG) (hGd : dk_Gd G) (k : Int) : dk_Ct l G dk_Ty yX11_sign cX11_sign 2 (some .int) 1 190 190 (fun av σ => av = [(4, 141), (0, k)] ∧ (0 ≤ k)) (fun _ σ r_ σ' => ∃ z : Int, r_ = some (0, z) ∧ (∀ k_ j_ : Int, ¬ (False) → σ' k_ j_ = σ k_ j_) ∧ (z = tsg σ k ∧ 0 ≤ z ∧ z ≤ 255 ∧ (σ 141 3 ≤ k → z = 0))) := by
  refine dk_enter hGd (by decide) (fun av σ hpre hok => ?_)
  obtain ⟨rfl, hk⟩ := hpre
  refine ⟨Nat.le_of_ble_eq_true rfl, fun E hE hR _ => ?_⟩
  have hi_k : dk_i32 k := dk_oki (hok _ (by simp))
  show dk_PJ E 0 [(4, 141), (0, k)] [] 190 σ
  refine dk_iload_n (pc' := 1) hE dX11_sign_0 rfl rfl rfl ?_
  refine dk_aload_n (pc' := 2) hE dX11_sign_1 rfl rfl rfl ?_
  refine gf_11_3 (pc' := 5) hE fl_X11_164 dX11_sign_2 is_141 rfl (fun v1 hv1 htv1 hbv1 => ?_)
  refine dk_icmp_ge (tgt := 21) (pc' := 8) hE dX11_sign_5 (by decide) rfl (fun hc2 => ?_) (fun hc2 => ?_)
  · skip
    refine dk_iconst (pc' := 22) hE dX11_sign_21 (by decide) rfl ?_
    exact dk_iret (st := []) hE hR dX11_sign_22 ⟨_, rfl, (fun k_ j_ h_ => rfl), ⟨by unfold tsg; first | (rw [if_pos (by omega)]; subst_vars; rfl) | rw [if_neg (by omega)], by omega, by omega, by omega⟩⟩
  · skip
    refine dk_aload_n (pc' := 9) hE dX11_sign_8 rfl rfl rfl ?_
    refine gf_11_1 (pc' := 12) (w := 143) hE fl_X11_13 dX11_sign_9 is_141 rfl rfl ?_
    refine dk_iload_n (pc' := 13) hE dX11_sign_12 rfl rfl rfl ?_
    refine ga_71 (pc' := 14) hE dX11_sign_13 is_143 (by omega) rfl (fun v3 hv3 htv3 hbv3 => ?_)
    refine dk_sipush (pc' := 17) hE dX11_sign_14 (by decide) rfl ?_
    refine dk_iand (pc' := 18) hE dX11_sign_17 rfl (fun v4 hv4 ev4 => ?_)
    have hxv4 := dk_and255 ev4
    refine dk_goto (tgt := 22) hE dX11_sign_18 (by decide) ?_
    exact dk_iret (st := []) hE hR dX11_sign_22 ⟨_, rfl, (fun k_ j_ h_ => rfl), ⟨by unfold tsg; first | (rw [if_pos (by omega)]; subst_vars; rfl) | rw [if_neg (by omega)], by omega, by omega, by omega⟩⟩
set_option maxHeartbeats 4000000 in
set_option maxRecDepth 20000 in
theorem ct_X11_isGood (l : Launch) (G : dkG) (hGd : dk_Gd G) : dk_Ct l G dk_Ty yX11_isGood cX11_isGood 1 (some .boolean) 1 190 190 (fun av σ => av = [(4, 141)]) (fun _ σ r_ σ' => ∃ z : Int, r_ = some (0, z) ∧ (∀ k_ j_ : Int, ¬ (False) → σ' k_ j_ = σ k_ j_) ∧ (z = 1 ∧ (σ 141 4 = 0) ∨ z = 0 ∧ (1 ≤ σ 141 4))) := by
  refine dk_enter hGd (by decide) (fun av σ hpre hok => ?_)
  subst hpre
  refine ⟨Nat.le_of_ble_eq_true rfl, fun E hE hR _ => ?_⟩
  show dk_PJ E 0 [(4, 141)] [] 190 σ
  refine dk_aload_n (pc' := 1) hE dX11_isGood_0 rfl rfl rfl ?_
  refine gf_11_4 (pc' := 4) hE fl_X11_167 dX11_isGood_1 is_141 rfl (fun v1 hv1 htv1 hbv1 => ?_)
  refine dk_if_ne (tgt := 11) (pc' := 7) hE dX11_isGood_4 (by decide) rfl (fun hc2 => ?_) (fun hc2 => ?_)
  · skip
    refine dk_iconst (pc' := 12) hE dX11_isGood_11 (by decide) rfl ?_
    exact dk_zret (st := []) hE hR dX11_isGood_12 (by omega) ⟨_, rfl, (fun k_ j_ h_ => rfl), by omega⟩
  · skip
    refine dk_iconst (pc' := 8) hE dX11_isGood_7 (by decide) rfl ?_
    refine dk_goto (tgt := 12) hE dX11_isGood_8 (by decide) ?_
    exact dk_zret (st := []) hE hR dX11_isGood_12 (by omega) ⟨_, rfl, (fun k_ j_ h_ => rfl), by omega⟩
set_option maxHeartbeats 4000000 in
set_option maxRecDepth 20000 in
theorem ct_X11_fails (l : Launch) (G : dkG) (hGd : dk_Gd G) (a b : Int) : dk_Ct l G dk_Ty yX11_fails cX11_fails 3 (none) 1 190 190 (fun av σ => av = [(4, 141), (0, a), (0, b)] ∧ (1 ≤ a ∧ a ≤ 5)) (fun _ σ r_ σ' => r_ = none ∧ (∀ k_ j_ : Int, ¬ ((k_ = 141 ∧ j_ = 4) ∨ (k_ = 141 ∧ j_ = 5)) → σ' k_ j_ = σ k_ j_) ∧ (1 ≤ σ' 141 4)) := by
  refine dk_enter hGd (by decide) (fun av σ hpre hok => ?_)
  obtain ⟨rfl, ha⟩ := hpre
  refine ⟨Nat.le_of_ble_eq_true rfl, fun E hE hR _ => ?_⟩
  have hi_a : dk_i32 a := dk_oki (hok _ (by simp))
  have hi_b : dk_i32 b := dk_oki (hok _ (by simp))
  show dk_PJ E 0 [(4, 141), (0, a), (0, b)] [] 190 σ
  refine dk_aload_n (pc' := 1) hE dX11_fails_0 rfl rfl rfl ?_
  refine gf_11_4 (pc' := 4) hE fl_X11_167 dX11_fails_1 is_141 rfl (fun v1 hv1 htv1 hbv1 => ?_)
  refine dk_if_le (tgt := 8) (pc' := 7) hE dX11_fails_4 (by decide) rfl (fun hc2 => ?_) (fun hc2 => ?_)
  · skip
    refine dk_aload_n (pc' := 9) hE dX11_fails_8 rfl rfl rfl ?_
    refine dk_iload_n (pc' := 10) hE dX11_fails_9 rfl rfl rfl ?_
    refine pf_11_4 (pc' := 13) hE fl_X11_167 dX11_fails_10 is_141 (by omega) rfl (fun σ3 eσ3 => ?_)
    refine dk_aload_n (pc' := 14) hE dX11_fails_13 rfl rfl rfl ?_
    refine dk_iload_n (pc' := 15) hE dX11_fails_14 rfl rfl rfl ?_
    refine pf_11_5 (pc' := 18) hE fl_X11_16 dX11_fails_15 is_141 trivial rfl (fun σ4 eσ4 => ?_)
    have hz5 : σ4 141 4 = a := by rw [eσ4, dk_up_n (show ¬ (141 = 141 ∧ 4 = 5) by omega), eσ3, dk_up_s]
    exact dk_vret (st := []) hE hR dX11_fails_18 ⟨rfl, (fun k_ j_ h_ => by rw [eσ4, dk_up_n (show ¬ (k_ = 141 ∧ j_ = 5) from fun q_ => h_ (Or.inr (q_))), eσ3, dk_up_n (show ¬ (k_ = 141 ∧ j_ = 4) from fun q_ => h_ (Or.inl (q_)))]), by omega⟩
  · skip
    have hz6 : σ 141 4 = v1 := by rw [hv1]
    exact dk_vret (st := []) hE hR dX11_fails_7 ⟨rfl, (fun k_ j_ h_ => rfl), by omega⟩
set_option maxHeartbeats 4000000 in
set_option maxRecDepth 20000 in
theorem ct_X11_wrong (l : Launch) (G : dkG) (hGd : dk_Gd G) : dk_Ct l G dk_Ty yX11_wrong cX11_wrong 1 (none) 2 190 190 (fun av σ => av = [(4, 141)]) (fun _ σ r_ σ' => r_ = none ∧ (∀ k_ j_ : Int, ¬ ((k_ = 141 ∧ j_ = 4) ∨ (k_ = 141 ∧ j_ = 5)) → σ' k_ j_ = σ k_ j_) ∧ (1 ≤ σ' 141 4)) := by
  refine dk_enter hGd (by decide) (fun av σ hpre hok => ?_)
  subst hpre
  refine ⟨Nat.le_of_ble_eq_true rfl, fun E hE hR _ => ?_⟩
  show dk_PJ E 0 [(4, 141)] [] 190 σ
  refine dk_aload_n (pc' := 1) hE dX11_wrong_0 rfl rfl rfl ?_
  refine dk_aload_n (pc' := 2) hE dX11_wrong_1 rfl rfl rfl ?_
  refine gf_11_8 (pc' := 5) hE fl_X11_222 dX11_wrong_2 is_141 rfl (fun v1 hv1 htv1 hbv1 => ?_)
  refine dk_iconst (pc' := 6) hE dX11_wrong_5 (by decide) rfl ?_
  refine dk_icmp_ne (tgt := 13) (pc' := 9) hE dX11_wrong_6 (by decide) rfl (fun hc2 => ?_) (fun hc2 => ?_)
  · skip
    refine dk_iconst (pc' := 14) hE dX11_wrong_13 (by decide) rfl ?_
    refine dk_aload_n (pc' := 15) hE dX11_wrong_14 rfl rfl rfl ?_
    refine gf_11_6 (pc' := 18) hE fl_X11_215 dX11_wrong_15 is_141 rfl (fun v3 hv3 htv3 hbv3 => ?_)
    refine dk_cV (pc' := 21) (as := [(0, 2), (0, v3)]) hE lk_X11_246 (ct_X11_fails l G hGd 2 v3) dX11_wrong_18 rfl is_141 rfl (by decide) (Nat.le_of_ble_eq_true rfl) ⟨rfl, (by omega)⟩ rfl (fun r5 σ4 hr5 hor5 => ?_)
    obtain ⟨rfl, hfσ4, hpr5⟩ := hr5
    exact dk_vret (st := []) hE hR dX11_wrong_21 ⟨rfl, (fun k_ j_ h_ => by rw [hfσ4 k_ j_ (fun w_ => h_ (w_.elim (fun x0_ => Or.inl (x0_)) (fun y0_ => Or.inr (y0_))))]), by omega⟩
  · skip
    refine dk_iconst (pc' := 10) hE dX11_wrong_9 (by decide) rfl ?_
    refine dk_goto (tgt := 14) hE dX11_wrong_10 (by decide) ?_
    refine dk_aload_n (pc' := 15) hE dX11_wrong_14 rfl rfl rfl ?_
    refine gf_11_6 (pc' := 18) hE fl_X11_215 dX11_wrong_15 is_141 rfl (fun v6 hv6 htv6 hbv6 => ?_)
    refine dk_cV (pc' := 21) (as := [(0, 1), (0, v6)]) hE lk_X11_246 (ct_X11_fails l G hGd 1 v6) dX11_wrong_18 rfl is_141 rfl (by decide) (Nat.le_of_ble_eq_true rfl) ⟨rfl, (by omega)⟩ rfl (fun r8 σ7 hr8 hor8 => ?_)
    obtain ⟨rfl, hfσ7, hpr8⟩ := hr8
    exact dk_vret (st := []) hE hR dX11_wrong_21 ⟨rfl, (fun k_ j_ h_ => by rw [hfσ7 k_ j_ (fun w_ => h_ (w_.elim (fun x0_ => Or.inl (x0_)) (fun y0_ => Or.inr (y0_))))]), by omega⟩
set_option maxHeartbeats 4000000 in
set_option maxRecDepth 20000 in
theorem ct_X11_isWord (l : Launch) (G : dkG) (hGd : dk_Gd G) (w : Int) : dk_Ct l G dk_Ty yX11_isWord cX11_isWord 3 (some .boolean) 1 190 190 (fun av σ => av = [(4, 141), (3, w)]) (fun _ σ r_ σ' => ∃ z : Int, r_ = some (0, z) ∧ (∀ k_ j_ : Int, ¬ (False) → σ' k_ j_ = σ k_ j_) ∧ (z = 1 ∧ (σ 141 8 = 3) ∨ z = 0)) := by
  refine dk_enter hGd (by decide) (fun av σ hpre hok => ?_)
  subst hpre
  refine ⟨Nat.le_of_ble_eq_true rfl, fun E hE hR _ => ?_⟩
  have hi_w : dk_i64 w := dk_okl (hok _ (by simp))
  show dk_PJ E 0 [(4, 141), (3, w), (9, 0)] [] 190 σ
  refine dk_aload_n (pc' := 1) hE dX11_isWord_0 rfl rfl rfl ?_
  refine gf_11_8 (pc' := 4) hE fl_X11_222 dX11_isWord_1 is_141 rfl (fun v1 hv1 htv1 hbv1 => ?_)
  refine dk_iconst (pc' := 5) hE dX11_isWord_4 (by decide) rfl ?_
  refine dk_icmp_ne (tgt := 21) (pc' := 8) hE dX11_isWord_5 (by decide) rfl (fun hc2 => ?_) (fun hc2 => ?_)
  · skip
    refine dk_iconst (pc' := 22) hE dX11_isWord_21 (by decide) rfl ?_
    exact dk_zret (st := []) hE hR dX11_isWord_22 (by omega) ⟨_, rfl, (fun k_ j_ h_ => rfl), by omega⟩
  · skip
    refine dk_aload_n (pc' := 9) hE dX11_isWord_8 rfl rfl rfl ?_
    refine gf_11_10 (pc' := 12) hE fl_X11_229 dX11_isWord_9 is_141 rfl (fun v3 hv3 htv3 hbv3 => ?_)
    refine dk_lload_n (pc' := 13) hE dX11_isWord_12 rfl rfl rfl ?_
    refine dk_lcmp (pc' := 14) hE dX11_isWord_13 rfl (fun v4 hv4 => ?_)
    refine dk_if_ne (tgt := 21) (pc' := 17) hE dX11_isWord_14 (by decide) rfl (fun hc5 => ?_) (fun hc5 => ?_)
    · skip
      refine dk_iconst (pc' := 22) hE dX11_isWord_21 (by decide) rfl ?_
      exact dk_zret (st := []) hE hR dX11_isWord_22 (by omega) ⟨_, rfl, (fun k_ j_ h_ => rfl), by omega⟩
    · skip
      refine dk_iconst (pc' := 18) hE dX11_isWord_17 (by decide) rfl ?_
      refine dk_goto (tgt := 22) hE dX11_isWord_18 (by decide) ?_
      exact dk_zret (st := []) hE hR dX11_isWord_22 (by omega) ⟨_, rfl, (fun k_ j_ h_ => rfl), by omega⟩
set_option maxHeartbeats 4000000 in
set_option maxRecDepth 20000 in
theorem ct_X11_is (l : Launch) (G : dkG) (hGd : dk_Gd G) (c : Int) : dk_Ct l G dk_Ty yX11_is cX11_is 2 (some .boolean) 2 190 190 (fun av σ => av = [(4, 141), (0, c)]) (fun _ σ r_ σ' => ∃ z : Int, r_ = some (0, z) ∧ (∀ k_ j_ : Int, ¬ (False) → σ' k_ j_ = σ k_ j_) ∧ (z = 1 ∧ (σ 141 8 = 5 ∧ tsg σ (σ 141 6) = c) ∨ z = 0)) := by
  refine dk_enter hGd (by decide) (fun av σ hpre hok => ?_)
  subst hpre
  refine ⟨Nat.le_of_ble_eq_true rfl, fun E hE hR _ => ?_⟩
  have hi_c : dk_i32 c := dk_oki (hok _ (by simp))
  show dk_PJ E 0 [(4, 141), (0, c)] [] 190 σ
  obtain ⟨a, ha⟩ : ∃ a : Int, a = σ 141 6 := ⟨_, rfl⟩
  refine dk_aload_n (pc' := 1) hE dX11_is_0 rfl rfl rfl ?_
  refine gf_11_8 (pc' := 4) hE fl_X11_222 dX11_is_1 is_141 rfl (fun v1 hv1 htv1 hbv1 => ?_)
  refine dk_iconst (pc' := 5) hE dX11_is_4 (by decide) rfl ?_
  refine dk_icmp_ne (tgt := 24) (pc' := 8) hE dX11_is_5 (by decide) rfl (fun hc2 => ?_) (fun hc2 => ?_)
  · skip
    refine dk_iconst (pc' := 25) hE dX11_is_24 (by decide) rfl ?_
    exact dk_zret (st := []) hE hR dX11_is_25 (by omega) ⟨_, rfl, (fun k_ j_ h_ => rfl), by rw [← ha]; omega⟩
  · skip
    refine dk_aload_n (pc' := 9) hE dX11_is_8 rfl rfl rfl ?_
    refine dk_aload_n (pc' := 10) hE dX11_is_9 rfl rfl rfl ?_
    refine gf_11_6 (pc' := 13) hE fl_X11_215 dX11_is_10 is_141 rfl (fun v3 hv3 htv3 hbv3 => ?_)
    have hq3 : a = v3 := (show v3 = a by rw [hv3, ha]).symm
    subst hq3
    refine dk_cV (pc' := 16) (as := [(0, a)]) hE lk_X11_218 (ct_X11_sign l G hGd a) dX11_is_13 rfl is_141 rfl (by decide) (Nat.le_of_ble_eq_true rfl) ⟨rfl, (by omega)⟩ rfl (fun r5 σ4 hr5 hor5 => ?_)
    obtain ⟨v6, rfl, hfσ4, hpr5⟩ := hr5
    have hsσ4 : σ = σ4 := (funext (fun k => funext (fun j => hfσ4 k j not_false))).symm
    subst hsσ4
    refine dk_iload_n (pc' := 17) hE dX11_is_16 rfl rfl rfl ?_
    refine dk_icmp_ne (tgt := 24) (pc' := 20) hE dX11_is_17 (by decide) rfl (fun hc7 => ?_) (fun hc7 => ?_)
    · skip
      refine dk_iconst (pc' := 25) hE dX11_is_24 (by decide) rfl ?_
      exact dk_zret (st := []) hE hR dX11_is_25 (by omega) ⟨_, rfl, (fun k_ j_ h_ => rfl), by rw [← ha]; omega⟩
    · skip
      refine dk_iconst (pc' := 21) hE dX11_is_20 (by decide) rfl ?_
      refine dk_goto (tgt := 25) hE dX11_is_21 (by decide) ?_
      exact dk_zret (st := []) hE hR dX11_is_25 (by omega) ⟨_, rfl, (fun k_ j_ h_ => rfl), by rw [← ha]; omega⟩
set_option maxHeartbeats 4000000 in
set_option maxRecDepth 20000 in
theorem ct_X11_next (l : Launch) (G : dkG) (hGd : dk_Gd G) : dk_Ct l G dk_Ty yX11_next cX11_next 3 (none) 2 190 190 (fun av σ => av = [(4, 141)] ∧ (σ 141 7 ≤ σ 141 3) ∧ (σ 141 3 ≤ 1400)) (fun _ σ r_ σ' => r_ = none ∧ (∀ k_ j_ : Int, ¬ ((k_ = 141 ∧ j_ = 6) ∨ (k_ = 141 ∧ j_ = 7) ∨ (k_ = 141 ∧ j_ = 8) ∨ (k_ = 141 ∧ j_ = 9) ∨ (k_ = 141 ∧ j_ = 10)) → σ' k_ j_ = σ k_ j_) ∧ (NY σ σ')) := by
  refine dk_enter hGd (by decide) (fun av σ hpre hok => ?_)
  obtain ⟨rfl, hE, hS⟩ := hpre
  refine ⟨Nat.le_of_ble_eq_true rfl, fun E hE hR _ => ?_⟩
  show dk_PJ E 0 [(4, 141), (9, 0), (9, 0)] [] 190 σ
  refine dk_aload_n (pc' := 1) hE dX11_next_0 rfl rfl rfl ?_
  refine dk_aload_n (pc' := 2) hE dX11_next_1 rfl rfl rfl ?_
  refine gf_11_7 (pc' := 5) hE fl_X11_212 dX11_next_2 is_141 rfl (fun v1 hv1 htv1 hbv1 => ?_)
  refine pf_11_6 (pc' := 8) hE fl_X11_215 dX11_next_5 is_141 (by omega) rfl (fun σ2 eσ2 => ?_)
  have lp8 : ∀ (N_ : Nat) (σ8c : dkS), (1401 - σ8c 141 6).toNat < N_ → ((∀ k_ j_ : Int, ¬ ((k_ = 141 ∧ j_ = 6)) → σ8c k_ j_ = σ2 k_ j_)) → (σ 141 7 ≤ σ8c 141 6 ∧ σ8c 141 6 ≤ σ 141 3) → (σ8c 141 3 = σ 141 3) → dk_PJ E 8 [(4, 141), (9, 0), (9, 0)] [] 190 σ8c := by
    intro N8
    induction N8 with
    | zero => intro  σ8c hm; exact absurd hm (Nat.not_lt_zero _)
    | succ N8 ih8 =>
      intro  σ8c hm8 hF8 ha hs3
      refine dk_aload_n (pc' := 9) hE dX11_next_8 rfl rfl rfl ?_
      refine gf_11_6 (pc' := 12) hE fl_X11_215 dX11_next_9 is_141 rfl (fun v3 hv3 htv3 hbv3 => ?_)
      refine dk_aload_n (pc' := 13) hE dX11_next_12 rfl rfl rfl ?_
      refine gf_11_3 (pc' := 16) hE fl_X11_164 dX11_next_13 is_141 rfl (fun v4 hv4 htv4 hbv4 => ?_)
      have hq4 : v4 = σ 141 3 := by rw [hv4, hF8 141 3 (by omega), eσ2, dk_up_n (show ¬ (141 = 141 ∧ 3 = 6) by omega)]
      refine dk_icmp_ge (tgt := 58) (pc' := 19) hE dX11_next_16 (by decide) rfl (fun hc5 => ?_) (fun hc5 => ?_)
      · skip
        refine dk_aload_n (pc' := 59) hE dX11_next_58 rfl rfl rfl ?_
        refine dk_aload_n (pc' := 60) hE dX11_next_59 rfl rfl rfl ?_
        refine gf_11_6 (pc' := 63) hE fl_X11_215 dX11_next_60 is_141 rfl (fun v6 hv6 htv6 hbv6 => ?_)
        have hq6 : v3 = v6 := (show v6 = v3 by rw [hv6, hv3]).symm
        subst hq6
        clear htv6 hbv6
        refine dk_cV (pc' := 66) (as := [(0, v3)]) hE lk_X11_218 (ct_X11_sign l G hGd v3) dX11_next_63 rfl is_141 rfl (by decide) (Nat.le_of_ble_eq_true rfl) ⟨rfl, (by omega)⟩ rfl (fun r8 σ7 hr8 hor8 => ?_)
        obtain ⟨v9, rfl, hfσ7, hpr8⟩ := hr8
        have hsσ7 : σ8c = σ7 := (funext (fun k => funext (fun j => hfσ7 k j not_false))).symm
        subst hsσ7
        refine dk_istore_n (pc' := 67) (ls' := [(4, 141), (0, v9), (9, 0)]) hE dX11_next_66 rfl rfl (by decide) rfl ?_
        refine dk_aload_n (pc' := 68) hE dX11_next_67 rfl rfl rfl ?_
        refine dk_aload_n (pc' := 69) hE dX11_next_68 rfl rfl rfl ?_
        refine gf_11_6 (pc' := 72) hE fl_X11_215 dX11_next_69 is_141 rfl (fun v10 hv10 htv10 hbv10 => ?_)
        have hq10 : v3 = v10 := (show v10 = v3 by rw [hv10, hv6]).symm
        subst hq10
        clear htv10 hbv10
        refine dk_iconst (pc' := 73) hE dX11_next_72 (by decide) rfl ?_
        obtain ⟨v11, hv11⟩ : ∃ z : Int, z = v3 + 1 := ⟨_, rfl⟩
        refine dk_iadd (pc' := 74) hE dX11_next_73 hv11.symm (by omega) rfl ?_
        refine pf_11_7 (pc' := 77) hE fl_X11_212 dX11_next_74 is_141 (by omega) rfl (fun σ12 eσ12 => ?_)
        refine dk_aload_n (pc' := 78) hE dX11_next_77 rfl rfl rfl ?_
        refine gf_11_6 (pc' := 81) hE fl_X11_215 dX11_next_78 is_141 rfl (fun v13 hv13 htv13 hbv13 => ?_)
        have hq13 : v3 = v13 := (show v13 = v3 by rw [hv13, eσ12, dk_up_n (show ¬ (141 = 141 ∧ 6 = 7) by omega), hv10]).symm
        subst hq13
        clear htv13 hbv13
        refine dk_aload_n (pc' := 82) hE dX11_next_81 rfl rfl rfl ?_
        refine gf_11_3 (pc' := 85) hE fl_X11_164 dX11_next_82 is_141 rfl (fun v14 hv14 htv14 hbv14 => ?_)
        have hq14 : v4 = v14 := (show v14 = v4 by rw [hv14, eσ12, dk_up_n (show ¬ (141 = 141 ∧ 3 = 7) by omega), hv4]).symm
        subst hq14
        clear htv14 hbv14
        refine dk_icmp_lt (tgt := 112) (pc' := 88) hE dX11_next_85 (by decide) rfl (fun hc15 => ?_) (fun hc15 => ?_)
        · skip
          refine dk_iload_n (pc' := 113) hE dX11_next_112 rfl rfl rfl ?_
          refine dk_cS (pc' := 116) (as := [(0, v9)]) hE lk_X11_225 (ct_X11_isLetter l G hGd v9) dX11_next_113 rfl rfl (by decide) (Nat.le_of_ble_eq_true rfl) rfl rfl (fun r17 σ16 hr17 hor17 => ?_)
          obtain ⟨v18, rfl, hfσ16, hpr17⟩ := hr17
          have hsσ16 : σ12 = σ16 := (funext (fun k => funext (fun j => hfσ16 k j not_false))).symm
          subst hsσ16
          rcases hpr17 with ⟨rfl, hpr17⟩ | ⟨rfl, hpr17⟩
          · skip
            refine dk_if_eq (tgt := 239) (pc' := 119) hE dX11_next_116 (by decide) rfl (fun hc19 => absurd hc19 (by decide)) (fun hc19 => ?_)
            have lp119 : ∀ (N_ : Nat) (σ119c : dkS), (1402 - σ119c 141 7).toNat < N_ → ((∀ k_ j_ : Int, ¬ ((k_ = 141 ∧ j_ = 7)) → σ119c k_ j_ = σ12 k_ j_)) → (σ119c 141 6 < σ119c 141 7 ∧ σ119c 141 7 ≤ σ 141 3 ∧ σ 141 7 ≤ σ119c 141 6) → (σ119c 141 3 = σ 141 3 ∧ σ119c 141 4 = σ 141 4) → dk_PJ E 119 [(4, 141), (0, v9), (9, 0)] [] 190 σ119c := by
              intro N119
              induction N119 with
              | zero => intro  σ119c hm; exact absurd hm (Nat.not_lt_zero _)
              | succ N119 ih119 =>
                intro  σ119c hm119 hF119 hb hs4
                have hz20 : σ119c 141 6 = v3 := by rw [hF119 141 6 (by omega), hv13]
                have hz21 : σ119c 141 6 = v3 := by rw [hF119 141 6 (by omega), hv13]
                have hz22 : σ119c 141 3 = v4 := by rw [hF119 141 3 (by omega), hv14]
                have hz23 : σ119c 141 4 = σ 141 4 := by rw [hF119 141 4 (by omega), eσ12, dk_up_n (show ¬ (141 = 141 ∧ 4 = 7) by omega), hF8 141 4 (by omega), eσ2, dk_up_n (show ¬ (141 = 141 ∧ 4 = 6) by omega)]
                refine dk_aload_n (pc' := 120) hE dX11_next_119 rfl rfl rfl ?_
                refine dk_aload_n (pc' := 121) hE dX11_next_120 rfl rfl rfl ?_
                refine gf_11_7 (pc' := 124) hE fl_X11_212 dX11_next_121 is_141 rfl (fun v24 hv24 htv24 hbv24 => ?_)
                refine dk_cV (pc' := 127) (as := [(0, v24)]) hE lk_X11_218 (ct_X11_sign l G hGd v24) dX11_next_124 rfl is_141 rfl (by decide) (Nat.le_of_ble_eq_true rfl) ⟨rfl, (by omega)⟩ rfl (fun r26 σ25 hr26 hor26 => ?_)
                obtain ⟨v27, rfl, hfσ25, hpr26⟩ := hr26
                have hsσ25 : σ119c = σ25 := (funext (fun k => funext (fun j => hfσ25 k j not_false))).symm
                subst hsσ25
                refine dk_cS (pc' := 130) (as := [(0, v27)]) hE lk_X11_225 (ct_X11_isLetter l G hGd v27) dX11_next_127 rfl rfl (by decide) (Nat.le_of_ble_eq_true rfl) rfl rfl (fun r29 σ28 hr29 hor29 => ?_)
                obtain ⟨v30, rfl, hfσ28, hpr29⟩ := hr29
                have hsσ28 : σ119c = σ28 := (funext (fun k => funext (fun j => hfσ28 k j not_false))).symm
                subst hsσ28
                rcases hpr29 with ⟨rfl, hpr29⟩ | ⟨rfl, hpr29⟩
                · skip
                  refine dk_if_eq (tgt := 146) (pc' := 133) hE dX11_next_130 (by decide) rfl (fun hc31 => absurd hc31 (by decide)) (fun hc31 => ?_)
                  refine dk_aload_n (pc' := 134) hE dX11_next_133 rfl rfl rfl ?_
                  refine dk_dup (pc' := 135) hE dX11_next_134 (show (4 : Nat) ≠ 3 by decide) rfl ?_
                  refine gf_11_7 (pc' := 138) hE fl_X11_212 dX11_next_135 is_141 rfl (fun v32 hv32 htv32 hbv32 => ?_)
                  have hq32 : v24 = v32 := (show v32 = v24 by rw [hv32, hv24]).symm
                  subst hq32
                  clear htv32 hbv32
                  refine dk_iconst (pc' := 139) hE dX11_next_138 (by decide) rfl ?_
                  obtain ⟨v33, hv33⟩ : ∃ z : Int, z = v24 + 1 := ⟨_, rfl⟩
                  refine dk_iadd (pc' := 140) hE dX11_next_139 hv33.symm (by omega) rfl ?_
                  refine pf_11_7 (pc' := 143) hE fl_X11_212 dX11_next_140 is_141 (by omega) rfl (fun σ34 eσ34 => ?_)
                  refine dk_goto (tgt := 119) hE dX11_next_143 (by decide) ?_
                  have hz34_141_6 := (show σ34 141 6 = _ by rw [eσ34, dk_up_n (show ¬ (141 = 141 ∧ 6 = 7) by omega)])
                  have hz35_141_7 : σ34 141 7 = v33 := by rw [eσ34, dk_up_s]
                  have hz36_141_3 := (show σ34 141 3 = _ by rw [eσ34, dk_up_n (show ¬ (141 = 141 ∧ 3 = 7) by omega)])
                  have hz37_141_4 := (show σ34 141 4 = _ by rw [eσ34, dk_up_n (show ¬ (141 = 141 ∧ 4 = 7) by omega)])
                  exact ih119 σ34 (by omega) (fun k_ j_ h_ => by rw [eσ34, dk_up_n (show ¬ (k_ = 141 ∧ j_ = 7) from fun q_ => h_ (q_)), hF119 k_ j_ (fun w_ => h_ (w_))]) (by omega) (by omega)
                · skip
                  refine dk_if_eq (tgt := 146) (pc' := 133) hE dX11_next_130 (by decide) rfl (fun hc39 => ?_) (fun hc39 => absurd hc39 (by decide))
                  refine dk_aload_n (pc' := 147) hE dX11_next_146 rfl rfl rfl ?_
                  refine dk_lconst (pc' := 148) hE dX11_next_147 (w := 0) rfl rfl ?_
                  refine pf_11_10 (pc' := 151) hE fl_X11_229 dX11_next_148 is_141 trivial rfl (fun σ40 eσ40 => ?_)
                  refine dk_aload_n (pc' := 152) hE dX11_next_151 rfl rfl rfl ?_
                  refine gf_11_6 (pc' := 155) hE fl_X11_215 dX11_next_152 is_141 rfl (fun v41 hv41 htv41 hbv41 => ?_)
                  have hq41 : v3 = v41 := (show v41 = v3 by rw [hv41, eσ40, dk_up_n (show ¬ (141 = 141 ∧ 6 = 10) by omega), hF119 141 6 (by omega), hv13]).symm
                  subst hq41
                  clear htv41 hbv41
                  refine dk_istore_n (pc' := 156) (ls' := [(4, 141), (0, v9), (0, v3)]) hE dX11_next_155 rfl rfl (by decide) rfl ?_
                  have lp156 : ∀ (N_ : Nat) (k : Int) (σ156c : dkS), (2147483648 - k).toNat < N_ → ((∀ k_ j_ : Int, ¬ ((k_ = 141 ∧ j_ = 10)) → σ156c k_ j_ = σ40 k_ j_)) → (0 ≤ k) → (σ156c 141 6 < σ156c 141 7 ∧ σ156c 141 7 ≤ σ 141 3 ∧ σ 141 7 ≤ σ156c 141 6) → (σ156c 141 3 = σ 141 3 ∧ σ156c 141 4 = σ 141 4) → dk_PJ E 156 [(4, 141), (0, v9), (0, k)] [] 190 σ156c := by
                    intro N156
                    induction N156 with
                    | zero => intro k σ156c hm; exact absurd hm (Nat.not_lt_zero _)
                    | succ N156 ih156 =>
                      intro k σ156c hm156 hF156 hk hc hs5
                      refine dk_iload_n (pc' := 157) hE dX11_next_156 rfl rfl rfl ?_
                      refine dk_aload_n (pc' := 158) hE dX11_next_157 rfl rfl rfl ?_
                      refine gf_11_7 (pc' := 161) hE fl_X11_212 dX11_next_158 is_141 rfl (fun v42 hv42 htv42 hbv42 => ?_)
                      have hq42 : v24 = v42 := (show v42 = v24 by rw [hv42, hF156 141 7 (by omega), eσ40, dk_up_n (show ¬ (141 = 141 ∧ 7 = 10) by omega), hv24]).symm
                      subst hq42
                      clear htv42 hbv42
                      refine dk_icmp_ge (tgt := 199) (pc' := 164) hE dX11_next_161 (by decide) rfl (fun hc43 => ?_) (fun hc43 => ?_)
                      · skip
                        refine dk_aload_n (pc' := 200) hE dX11_next_199 rfl rfl rfl ?_
                        refine dk_aload_n (pc' := 201) hE dX11_next_200 rfl rfl rfl ?_
                        refine gf_11_7 (pc' := 204) hE fl_X11_212 dX11_next_201 is_141 rfl (fun v44 hv44 htv44 hbv44 => ?_)
                        have hq44 : v24 = v44 := (show v44 = v24 by rw [hv44, hv42]).symm
                        subst hq44
                        clear htv44 hbv44
                        refine dk_aload_n (pc' := 205) hE dX11_next_204 rfl rfl rfl ?_
                        refine gf_11_6 (pc' := 208) hE fl_X11_215 dX11_next_205 is_141 rfl (fun v45 hv45 htv45 hbv45 => ?_)
                        have hq45 : v3 = v45 := (show v45 = v3 by rw [hv45, hF156 141 6 (by omega), hv41]).symm
                        subst hq45
                        clear htv45 hbv45
                        obtain ⟨v46, hv46⟩ : ∃ z : Int, z = v24 - v3 := ⟨_, rfl⟩
                        refine dk_isub (pc' := 209) hE dX11_next_208 hv46.symm (by omega) rfl ?_
                        refine dk_bipush (pc' := 211) hE dX11_next_209 (by decide) rfl ?_
                        refine dk_icmp_le (tgt := 218) (pc' := 214) hE dX11_next_211 (by decide) rfl (fun hc47 => ?_) (fun hc47 => ?_)
                        · skip
                          refine dk_aload_n (pc' := 219) hE dX11_next_218 rfl rfl rfl ?_
                          refine gf_11_10 (pc' := 222) hE fl_X11_229 dX11_next_219 is_141 rfl (fun v48 hv48 htv48 hbv48 => ?_)
                          refine dk_cS (pc' := 225) (as := [(3, v48)]) hE lk_X11_233 (ct_X11_isKept l G hGd v48) dX11_next_222 rfl rfl (by decide) (Nat.le_of_ble_eq_true rfl) rfl rfl (fun r50 σ49 hr50 hor50 => ?_)
                          obtain ⟨v51, rfl, hfσ49, hpr50⟩ := hr50
                          have hsσ49 : σ156c = σ49 := (funext (fun k => funext (fun j => hfσ49 k j not_false))).symm
                          subst hsσ49
                          refine dk_if_eq (tgt := 232) (pc' := 228) hE dX11_next_225 (by decide) rfl (fun hc52 => ?_) (fun hc52 => ?_)
                          · skip
                            refine dk_iconst (pc' := 233) hE dX11_next_232 (by decide) rfl ?_
                            refine pf_11_8 (pc' := 236) hE fl_X11_222 dX11_next_233 is_141 (by omega) rfl (fun σ53 eσ53 => ?_)
                            refine dk_goto (tgt := 377) hE dX11_next_236 (by decide) ?_
                            have hz54 : σ53 141 3 = v4 := by rw [eσ53, dk_up_n (show ¬ (141 = 141 ∧ 3 = 8) by omega), hF156 141 3 (by omega), eσ40, dk_up_n (show ¬ (141 = 141 ∧ 3 = 10) by omega), hF119 141 3 (by omega), hv14]
                            have hz55 : σ53 141 4 = σ 141 4 := by rw [eσ53, dk_up_n (show ¬ (141 = 141 ∧ 4 = 8) by omega), hF156 141 4 (by omega), eσ40, dk_up_n (show ¬ (141 = 141 ∧ 4 = 10) by omega), hF119 141 4 (by omega), eσ12, dk_up_n (show ¬ (141 = 141 ∧ 4 = 7) by omega), hF8 141 4 (by omega), eσ2, dk_up_n (show ¬ (141 = 141 ∧ 4 = 6) by omega)]
                            have hz56 : σ53 141 6 = v3 := by rw [eσ53, dk_up_n (show ¬ (141 = 141 ∧ 6 = 8) by omega), hv45]
                            have hz57 : σ53 141 7 = v24 := by rw [eσ53, dk_up_n (show ¬ (141 = 141 ∧ 7 = 8) by omega), hv44]
                            have hz58 : σ53 141 8 = 2 := by rw [eσ53, dk_up_s]
                            exact dk_vret (st := []) hE hR dX11_next_377 ⟨rfl, (fun k_ j_ h_ => by rw [eσ53, dk_up_n (show ¬ (k_ = 141 ∧ j_ = 8) from fun q_ => h_ (Or.inr (Or.inr (Or.inl (q_))))), hF156 k_ j_ (fun w_ => h_ (Or.inr (Or.inr (Or.inr (Or.inr (w_)))))), eσ40, dk_up_n (show ¬ (k_ = 141 ∧ j_ = 10) from fun q_ => h_ (Or.inr (Or.inr (Or.inr (Or.inr (q_)))))), hF119 k_ j_ (fun w_ => h_ (Or.inr (Or.inl (w_)))), eσ12, dk_up_n (show ¬ (k_ = 141 ∧ j_ = 7) from fun q_ => h_ (Or.inr (Or.inl (q_)))), hF8 k_ j_ (fun w_ => h_ (Or.inl (w_))), eσ2, dk_up_n (show ¬ (k_ = 141 ∧ j_ = 6) from fun q_ => h_ (Or.inl (q_)))]), NY_of (by omega) (by omega) (by omega) (by omega) (by omega)⟩
                          · skip
                            refine dk_iconst (pc' := 229) hE dX11_next_228 (by decide) rfl ?_
                            refine dk_goto (tgt := 233) hE dX11_next_229 (by decide) ?_
                            refine pf_11_8 (pc' := 236) hE fl_X11_222 dX11_next_233 is_141 (by omega) rfl (fun σ59 eσ59 => ?_)
                            refine dk_goto (tgt := 377) hE dX11_next_236 (by decide) ?_
                            have hz60 : σ59 141 3 = v4 := by rw [eσ59, dk_up_n (show ¬ (141 = 141 ∧ 3 = 8) by omega), hF156 141 3 (by omega), eσ40, dk_up_n (show ¬ (141 = 141 ∧ 3 = 10) by omega), hF119 141 3 (by omega), hv14]
                            have hz61 : σ59 141 4 = σ 141 4 := by rw [eσ59, dk_up_n (show ¬ (141 = 141 ∧ 4 = 8) by omega), hF156 141 4 (by omega), eσ40, dk_up_n (show ¬ (141 = 141 ∧ 4 = 10) by omega), hF119 141 4 (by omega), eσ12, dk_up_n (show ¬ (141 = 141 ∧ 4 = 7) by omega), hF8 141 4 (by omega), eσ2, dk_up_n (show ¬ (141 = 141 ∧ 4 = 6) by omega)]
                            have hz62 : σ59 141 6 = v3 := by rw [eσ59, dk_up_n (show ¬ (141 = 141 ∧ 6 = 8) by omega), hv45]
                            have hz63 : σ59 141 7 = v24 := by rw [eσ59, dk_up_n (show ¬ (141 = 141 ∧ 7 = 8) by omega), hv44]
                            have hz64 : σ59 141 8 = 3 := by rw [eσ59, dk_up_s]
                            exact dk_vret (st := []) hE hR dX11_next_377 ⟨rfl, (fun k_ j_ h_ => by rw [eσ59, dk_up_n (show ¬ (k_ = 141 ∧ j_ = 8) from fun q_ => h_ (Or.inr (Or.inr (Or.inl (q_))))), hF156 k_ j_ (fun w_ => h_ (Or.inr (Or.inr (Or.inr (Or.inr (w_)))))), eσ40, dk_up_n (show ¬ (k_ = 141 ∧ j_ = 10) from fun q_ => h_ (Or.inr (Or.inr (Or.inr (Or.inr (q_)))))), hF119 k_ j_ (fun w_ => h_ (Or.inr (Or.inl (w_)))), eσ12, dk_up_n (show ¬ (k_ = 141 ∧ j_ = 7) from fun q_ => h_ (Or.inr (Or.inl (q_)))), hF8 k_ j_ (fun w_ => h_ (Or.inl (w_))), eσ2, dk_up_n (show ¬ (k_ = 141 ∧ j_ = 6) from fun q_ => h_ (Or.inl (q_)))]), NY_of (by omega) (by omega) (by omega) (by omega) (by omega)⟩
                        · skip
                          refine dk_iconst (pc' := 215) hE dX11_next_214 (by decide) rfl ?_
                          refine dk_goto (tgt := 233) hE dX11_next_215 (by decide) ?_
                          refine pf_11_8 (pc' := 236) hE fl_X11_222 dX11_next_233 is_141 (by omega) rfl (fun σ65 eσ65 => ?_)
                          refine dk_goto (tgt := 377) hE dX11_next_236 (by decide) ?_
                          have hz66 : σ65 141 3 = v4 := by rw [eσ65, dk_up_n (show ¬ (141 = 141 ∧ 3 = 8) by omega), hF156 141 3 (by omega), eσ40, dk_up_n (show ¬ (141 = 141 ∧ 3 = 10) by omega), hF119 141 3 (by omega), hv14]
                          have hz67 : σ65 141 4 = σ 141 4 := by rw [eσ65, dk_up_n (show ¬ (141 = 141 ∧ 4 = 8) by omega), hF156 141 4 (by omega), eσ40, dk_up_n (show ¬ (141 = 141 ∧ 4 = 10) by omega), hF119 141 4 (by omega), eσ12, dk_up_n (show ¬ (141 = 141 ∧ 4 = 7) by omega), hF8 141 4 (by omega), eσ2, dk_up_n (show ¬ (141 = 141 ∧ 4 = 6) by omega)]
                          have hz68 : σ65 141 6 = v3 := by rw [eσ65, dk_up_n (show ¬ (141 = 141 ∧ 6 = 8) by omega), hv45]
                          have hz69 : σ65 141 7 = v24 := by rw [eσ65, dk_up_n (show ¬ (141 = 141 ∧ 7 = 8) by omega), hv44]
                          have hz70 : σ65 141 8 = 1 := by rw [eσ65, dk_up_s]
                          exact dk_vret (st := []) hE hR dX11_next_377 ⟨rfl, (fun k_ j_ h_ => by rw [eσ65, dk_up_n (show ¬ (k_ = 141 ∧ j_ = 8) from fun q_ => h_ (Or.inr (Or.inr (Or.inl (q_))))), hF156 k_ j_ (fun w_ => h_ (Or.inr (Or.inr (Or.inr (Or.inr (w_)))))), eσ40, dk_up_n (show ¬ (k_ = 141 ∧ j_ = 10) from fun q_ => h_ (Or.inr (Or.inr (Or.inr (Or.inr (q_)))))), hF119 k_ j_ (fun w_ => h_ (Or.inr (Or.inl (w_)))), eσ12, dk_up_n (show ¬ (k_ = 141 ∧ j_ = 7) from fun q_ => h_ (Or.inr (Or.inl (q_)))), hF8 k_ j_ (fun w_ => h_ (Or.inl (w_))), eσ2, dk_up_n (show ¬ (k_ = 141 ∧ j_ = 6) from fun q_ => h_ (Or.inl (q_)))]), NY_of (by omega) (by omega) (by omega) (by omega) (by omega)⟩
                      · skip
                        refine dk_iload_n (pc' := 165) hE dX11_next_164 rfl rfl rfl ?_
                        refine dk_aload_n (pc' := 166) hE dX11_next_165 rfl rfl rfl ?_
                        refine gf_11_6 (pc' := 169) hE fl_X11_215 dX11_next_166 is_141 rfl (fun v71 hv71 htv71 hbv71 => ?_)
                        have hq71 : v3 = v71 := (show v71 = v3 by rw [hv71, hF156 141 6 (by omega), hv41]).symm
                        subst hq71
                        clear htv71 hbv71
                        refine dk_bipush (pc' := 171) hE dX11_next_169 (by decide) rfl ?_
                        obtain ⟨v72, hv72⟩ : ∃ z : Int, z = v3 + 8 := ⟨_, rfl⟩
                        refine dk_iadd (pc' := 172) hE dX11_next_171 hv72.symm (by omega) rfl ?_
                        refine dk_icmp_ge (tgt := 199) (pc' := 175) hE dX11_next_172 (by decide) rfl (fun hc73 => ?_) (fun hc73 => ?_)
                        · skip
                          refine dk_aload_n (pc' := 200) hE dX11_next_199 rfl rfl rfl ?_
                          refine dk_aload_n (pc' := 201) hE dX11_next_200 rfl rfl rfl ?_
                          refine gf_11_7 (pc' := 204) hE fl_X11_212 dX11_next_201 is_141 rfl (fun v74 hv74 htv74 hbv74 => ?_)
                          have hq74 : v24 = v74 := (show v74 = v24 by rw [hv74, hv42]).symm
                          subst hq74
                          clear htv74 hbv74
                          refine dk_aload_n (pc' := 205) hE dX11_next_204 rfl rfl rfl ?_
                          refine gf_11_6 (pc' := 208) hE fl_X11_215 dX11_next_205 is_141 rfl (fun v75 hv75 htv75 hbv75 => ?_)
                          have hq75 : v3 = v75 := (show v75 = v3 by rw [hv75, hv71]).symm
                          subst hq75
                          clear htv75 hbv75
                          obtain ⟨v76, hv76⟩ : ∃ z : Int, z = v24 - v3 := ⟨_, rfl⟩
                          refine dk_isub (pc' := 209) hE dX11_next_208 hv76.symm (by omega) rfl ?_
                          refine dk_bipush (pc' := 211) hE dX11_next_209 (by decide) rfl ?_
                          refine dk_icmp_le (tgt := 218) (pc' := 214) hE dX11_next_211 (by decide) rfl (fun hc77 => ?_) (fun hc77 => ?_)
                          · skip
                            refine dk_aload_n (pc' := 219) hE dX11_next_218 rfl rfl rfl ?_
                            refine gf_11_10 (pc' := 222) hE fl_X11_229 dX11_next_219 is_141 rfl (fun v78 hv78 htv78 hbv78 => ?_)
                            refine dk_cS (pc' := 225) (as := [(3, v78)]) hE lk_X11_233 (ct_X11_isKept l G hGd v78) dX11_next_222 rfl rfl (by decide) (Nat.le_of_ble_eq_true rfl) rfl rfl (fun r80 σ79 hr80 hor80 => ?_)
                            obtain ⟨v81, rfl, hfσ79, hpr80⟩ := hr80
                            have hsσ79 : σ156c = σ79 := (funext (fun k => funext (fun j => hfσ79 k j not_false))).symm
                            subst hsσ79
                            refine dk_if_eq (tgt := 232) (pc' := 228) hE dX11_next_225 (by decide) rfl (fun hc82 => ?_) (fun hc82 => ?_)
                            · skip
                              refine dk_iconst (pc' := 233) hE dX11_next_232 (by decide) rfl ?_
                              refine pf_11_8 (pc' := 236) hE fl_X11_222 dX11_next_233 is_141 (by omega) rfl (fun σ83 eσ83 => ?_)
                              refine dk_goto (tgt := 377) hE dX11_next_236 (by decide) ?_
                              have hz84 : σ83 141 3 = v4 := by rw [eσ83, dk_up_n (show ¬ (141 = 141 ∧ 3 = 8) by omega), hF156 141 3 (by omega), eσ40, dk_up_n (show ¬ (141 = 141 ∧ 3 = 10) by omega), hF119 141 3 (by omega), hv14]
                              have hz85 : σ83 141 4 = σ 141 4 := by rw [eσ83, dk_up_n (show ¬ (141 = 141 ∧ 4 = 8) by omega), hF156 141 4 (by omega), eσ40, dk_up_n (show ¬ (141 = 141 ∧ 4 = 10) by omega), hF119 141 4 (by omega), eσ12, dk_up_n (show ¬ (141 = 141 ∧ 4 = 7) by omega), hF8 141 4 (by omega), eσ2, dk_up_n (show ¬ (141 = 141 ∧ 4 = 6) by omega)]
                              have hz86 : σ83 141 6 = v3 := by rw [eσ83, dk_up_n (show ¬ (141 = 141 ∧ 6 = 8) by omega), hv75]
                              have hz87 : σ83 141 7 = v24 := by rw [eσ83, dk_up_n (show ¬ (141 = 141 ∧ 7 = 8) by omega), hv74]
                              have hz88 : σ83 141 8 = 2 := by rw [eσ83, dk_up_s]
                              exact dk_vret (st := []) hE hR dX11_next_377 ⟨rfl, (fun k_ j_ h_ => by rw [eσ83, dk_up_n (show ¬ (k_ = 141 ∧ j_ = 8) from fun q_ => h_ (Or.inr (Or.inr (Or.inl (q_))))), hF156 k_ j_ (fun w_ => h_ (Or.inr (Or.inr (Or.inr (Or.inr (w_)))))), eσ40, dk_up_n (show ¬ (k_ = 141 ∧ j_ = 10) from fun q_ => h_ (Or.inr (Or.inr (Or.inr (Or.inr (q_)))))), hF119 k_ j_ (fun w_ => h_ (Or.inr (Or.inl (w_)))), eσ12, dk_up_n (show ¬ (k_ = 141 ∧ j_ = 7) from fun q_ => h_ (Or.inr (Or.inl (q_)))), hF8 k_ j_ (fun w_ => h_ (Or.inl (w_))), eσ2, dk_up_n (show ¬ (k_ = 141 ∧ j_ = 6) from fun q_ => h_ (Or.inl (q_)))]), NY_of (by omega) (by omega) (by omega) (by omega) (by omega)⟩
                            · skip
                              refine dk_iconst (pc' := 229) hE dX11_next_228 (by decide) rfl ?_
                              refine dk_goto (tgt := 233) hE dX11_next_229 (by decide) ?_
                              refine pf_11_8 (pc' := 236) hE fl_X11_222 dX11_next_233 is_141 (by omega) rfl (fun σ89 eσ89 => ?_)
                              refine dk_goto (tgt := 377) hE dX11_next_236 (by decide) ?_
                              have hz90 : σ89 141 3 = v4 := by rw [eσ89, dk_up_n (show ¬ (141 = 141 ∧ 3 = 8) by omega), hF156 141 3 (by omega), eσ40, dk_up_n (show ¬ (141 = 141 ∧ 3 = 10) by omega), hF119 141 3 (by omega), hv14]
                              have hz91 : σ89 141 4 = σ 141 4 := by rw [eσ89, dk_up_n (show ¬ (141 = 141 ∧ 4 = 8) by omega), hF156 141 4 (by omega), eσ40, dk_up_n (show ¬ (141 = 141 ∧ 4 = 10) by omega), hF119 141 4 (by omega), eσ12, dk_up_n (show ¬ (141 = 141 ∧ 4 = 7) by omega), hF8 141 4 (by omega), eσ2, dk_up_n (show ¬ (141 = 141 ∧ 4 = 6) by omega)]
                              have hz92 : σ89 141 6 = v3 := by rw [eσ89, dk_up_n (show ¬ (141 = 141 ∧ 6 = 8) by omega), hv75]
                              have hz93 : σ89 141 7 = v24 := by rw [eσ89, dk_up_n (show ¬ (141 = 141 ∧ 7 = 8) by omega), hv74]
                              have hz94 : σ89 141 8 = 3 := by rw [eσ89, dk_up_s]
                              exact dk_vret (st := []) hE hR dX11_next_377 ⟨rfl, (fun k_ j_ h_ => by rw [eσ89, dk_up_n (show ¬ (k_ = 141 ∧ j_ = 8) from fun q_ => h_ (Or.inr (Or.inr (Or.inl (q_))))), hF156 k_ j_ (fun w_ => h_ (Or.inr (Or.inr (Or.inr (Or.inr (w_)))))), eσ40, dk_up_n (show ¬ (k_ = 141 ∧ j_ = 10) from fun q_ => h_ (Or.inr (Or.inr (Or.inr (Or.inr (q_)))))), hF119 k_ j_ (fun w_ => h_ (Or.inr (Or.inl (w_)))), eσ12, dk_up_n (show ¬ (k_ = 141 ∧ j_ = 7) from fun q_ => h_ (Or.inr (Or.inl (q_)))), hF8 k_ j_ (fun w_ => h_ (Or.inl (w_))), eσ2, dk_up_n (show ¬ (k_ = 141 ∧ j_ = 6) from fun q_ => h_ (Or.inl (q_)))]), NY_of (by omega) (by omega) (by omega) (by omega) (by omega)⟩
                          · skip
                            refine dk_iconst (pc' := 215) hE dX11_next_214 (by decide) rfl ?_
                            refine dk_goto (tgt := 233) hE dX11_next_215 (by decide) ?_
                            refine pf_11_8 (pc' := 236) hE fl_X11_222 dX11_next_233 is_141 (by omega) rfl (fun σ95 eσ95 => ?_)
                            refine dk_goto (tgt := 377) hE dX11_next_236 (by decide) ?_
                            have hz96 : σ95 141 3 = v4 := by rw [eσ95, dk_up_n (show ¬ (141 = 141 ∧ 3 = 8) by omega), hF156 141 3 (by omega), eσ40, dk_up_n (show ¬ (141 = 141 ∧ 3 = 10) by omega), hF119 141 3 (by omega), hv14]
                            have hz97 : σ95 141 4 = σ 141 4 := by rw [eσ95, dk_up_n (show ¬ (141 = 141 ∧ 4 = 8) by omega), hF156 141 4 (by omega), eσ40, dk_up_n (show ¬ (141 = 141 ∧ 4 = 10) by omega), hF119 141 4 (by omega), eσ12, dk_up_n (show ¬ (141 = 141 ∧ 4 = 7) by omega), hF8 141 4 (by omega), eσ2, dk_up_n (show ¬ (141 = 141 ∧ 4 = 6) by omega)]
                            have hz98 : σ95 141 6 = v3 := by rw [eσ95, dk_up_n (show ¬ (141 = 141 ∧ 6 = 8) by omega), hv75]
                            have hz99 : σ95 141 7 = v24 := by rw [eσ95, dk_up_n (show ¬ (141 = 141 ∧ 7 = 8) by omega), hv74]
                            have hz100 : σ95 141 8 = 1 := by rw [eσ95, dk_up_s]
                            exact dk_vret (st := []) hE hR dX11_next_377 ⟨rfl, (fun k_ j_ h_ => by rw [eσ95, dk_up_n (show ¬ (k_ = 141 ∧ j_ = 8) from fun q_ => h_ (Or.inr (Or.inr (Or.inl (q_))))), hF156 k_ j_ (fun w_ => h_ (Or.inr (Or.inr (Or.inr (Or.inr (w_)))))), eσ40, dk_up_n (show ¬ (k_ = 141 ∧ j_ = 10) from fun q_ => h_ (Or.inr (Or.inr (Or.inr (Or.inr (q_)))))), hF119 k_ j_ (fun w_ => h_ (Or.inr (Or.inl (w_)))), eσ12, dk_up_n (show ¬ (k_ = 141 ∧ j_ = 7) from fun q_ => h_ (Or.inr (Or.inl (q_)))), hF8 k_ j_ (fun w_ => h_ (Or.inl (w_))), eσ2, dk_up_n (show ¬ (k_ = 141 ∧ j_ = 6) from fun q_ => h_ (Or.inl (q_)))]), NY_of (by omega) (by omega) (by omega) (by omega) (by omega)⟩
                        · skip
                          refine dk_aload_n (pc' := 176) hE dX11_next_175 rfl rfl rfl ?_
                          refine dk_aload_n (pc' := 177) hE dX11_next_176 rfl rfl rfl ?_
                          refine gf_11_10 (pc' := 180) hE fl_X11_229 dX11_next_177 is_141 rfl (fun v101 hv101 htv101 hbv101 => ?_)
                          refine dk_bipush (pc' := 182) hE dX11_next_180 (by decide) rfl ?_
                          refine dk_lshl (pc' := 183) hE dX11_next_182 rfl (fun v102 hv102 => ?_)
                          refine dk_aload_n (pc' := 184) hE dX11_next_183 rfl rfl rfl ?_
                          refine dk_iload_n (pc' := 185) hE dX11_next_184 rfl rfl rfl ?_
                          refine dk_cV (pc' := 188) (as := [(0, k)]) hE lk_X11_218 (ct_X11_sign l G hGd k) dX11_next_185 rfl is_141 rfl (by decide) (Nat.le_of_ble_eq_true rfl) ⟨rfl, (by omega)⟩ rfl (fun r104 σ103 hr104 hor104 => ?_)
                          obtain ⟨v105, rfl, hfσ103, hpr104⟩ := hr104
                          have hsσ103 : σ156c = σ103 := (funext (fun k => funext (fun j => hfσ103 k j not_false))).symm
                          subst hsσ103
                          refine dk_i2l (pc' := 189) hE dX11_next_188 rfl ?_
                          refine dk_lor (pc' := 190) hE dX11_next_189 rfl (fun v106 hv106 => ?_)
                          refine pf_11_10 (pc' := 193) hE fl_X11_229 dX11_next_190 is_141 trivial rfl (fun σ107 eσ107 => ?_)
                          obtain ⟨v108, hv108⟩ : ∃ z : Int, z = k + 1 := ⟨_, rfl⟩
                          refine dk_iinc (pc' := 196) (ls' := [(4, 141), (0, v9), (0, v108)]) hE dX11_next_193 rfl hv108.symm (by omega) rfl (by decide) rfl ?_
                          refine dk_goto (tgt := 156) hE dX11_next_196 (by decide) ?_
                          have hz108_141_6 := (show σ107 141 6 = _ by rw [eσ107, dk_up_n (show ¬ (141 = 141 ∧ 6 = 10) by omega)])
                          have hz109_141_7 := (show σ107 141 7 = _ by rw [eσ107, dk_up_n (show ¬ (141 = 141 ∧ 7 = 10) by omega)])
                          have hz110_141_3 := (show σ107 141 3 = _ by rw [eσ107, dk_up_n (show ¬ (141 = 141 ∧ 3 = 10) by omega)])
                          have hz111_141_4 := (show σ107 141 4 = _ by rw [eσ107, dk_up_n (show ¬ (141 = 141 ∧ 4 = 10) by omega)])
                          exact ih156 v108 σ107 (by omega) (fun k_ j_ h_ => by rw [eσ107, dk_up_n (show ¬ (k_ = 141 ∧ j_ = 10) from fun q_ => h_ (q_)), hF156 k_ j_ (fun w_ => h_ (w_))]) (by omega) (by omega) (by omega)
                  have hz113 : σ40 141 6 = v3 := by rw [hv41]
                  have hz114 : σ40 141 7 = v24 := by rw [eσ40, dk_up_n (show ¬ (141 = 141 ∧ 7 = 10) by omega), hv24]
                  have hz115 : σ40 141 7 = v24 := by rw [eσ40, dk_up_n (show ¬ (141 = 141 ∧ 7 = 10) by omega), hv24]
                  have hz116 : σ40 141 6 = v3 := by rw [hv41]
                  have hz117 : σ40 141 3 = v4 := by rw [eσ40, dk_up_n (show ¬ (141 = 141 ∧ 3 = 10) by omega), hF119 141 3 (by omega), hv14]
                  have hz118 : σ40 141 4 = σ 141 4 := by rw [eσ40, dk_up_n (show ¬ (141 = 141 ∧ 4 = 10) by omega), hF119 141 4 (by omega), eσ12, dk_up_n (show ¬ (141 = 141 ∧ 4 = 7) by omega), hF8 141 4 (by omega), eσ2, dk_up_n (show ¬ (141 = 141 ∧ 4 = 6) by omega)]
                  exact lp156 _ v3 σ40 (Nat.lt_succ_self _) (fun k_ j_ h_ => rfl) (by omega) (by omega) (by omega)
            have hz123 : σ12 141 6 = v3 := by rw [hv13]
            have hz124 : σ12 141 7 = v11 := by rw [eσ12, dk_up_s]
            have hz125 : σ12 141 7 = v11 := by rw [eσ12, dk_up_s]
            have hz126 : σ12 141 6 = v3 := by rw [hv13]
            have hz127 : σ12 141 3 = v4 := by rw [hv14]
            have hz128 : σ12 141 4 = σ 141 4 := by rw [eσ12, dk_up_n (show ¬ (141 = 141 ∧ 4 = 7) by omega), hF8 141 4 (by omega), eσ2, dk_up_n (show ¬ (141 = 141 ∧ 4 = 6) by omega)]
            have hz129 : σ12 141 7 = v11 := by rw [eσ12, dk_up_s]
            have hz130_141_7 : σ12 141 7 = v11 := by rw [eσ12, dk_up_s]
            exact lp119 _ σ12 (Nat.lt_succ_self _) (fun k_ j_ h_ => rfl) (by omega) (by omega)
          · skip
            refine dk_if_eq (tgt := 239) (pc' := 119) hE dX11_next_116 (by decide) rfl (fun hc134 => ?_) (fun hc134 => absurd hc134 (by decide))
            refine dk_iload_n (pc' := 240) hE dX11_next_239 rfl rfl rfl ?_
            refine dk_cS (pc' := 243) (as := [(0, v9)]) hE lk_X11_237 (ct_X11_isDigit l G hGd v9) dX11_next_240 rfl rfl (by decide) (Nat.le_of_ble_eq_true rfl) rfl rfl (fun r136 σ135 hr136 hor136 => ?_)
            obtain ⟨v137, rfl, hfσ135, hpr136⟩ := hr136
            have hsσ135 : σ12 = σ135 := (funext (fun k => funext (fun j => hfσ135 k j not_false))).symm
            subst hsσ135
            rcases hpr136 with ⟨rfl, hpr136⟩ | ⟨rfl, hpr136⟩
            · skip
              refine dk_if_eq (tgt := 361) (pc' := 246) hE dX11_next_243 (by decide) rfl (fun hc138 => absurd hc138 (by decide)) (fun hc138 => ?_)
              refine dk_aload_n (pc' := 247) hE dX11_next_246 rfl rfl rfl ?_
              refine dk_iconst (pc' := 248) hE dX11_next_247 (by decide) rfl ?_
              refine pf_11_9 (pc' := 251) hE fl_X11_240 dX11_next_248 is_141 (by omega) rfl (fun σ139 eσ139 => ?_)
              refine dk_aload_n (pc' := 252) hE dX11_next_251 rfl rfl rfl ?_
              refine dk_aload_n (pc' := 253) hE dX11_next_252 rfl rfl rfl ?_
              refine gf_11_6 (pc' := 256) hE fl_X11_215 dX11_next_253 is_141 rfl (fun v140 hv140 htv140 hbv140 => ?_)
              have hq140 : v3 = v140 := (show v140 = v3 by rw [hv140, eσ139, dk_up_n (show ¬ (141 = 141 ∧ 6 = 9) by omega), hv13]).symm
              subst hq140
              clear htv140 hbv140
              refine pf_11_7 (pc' := 259) hE fl_X11_212 dX11_next_256 is_141 (by omega) rfl (fun σ141 eσ141 => ?_)
              refine dk_aload_n (pc' := 260) hE dX11_next_259 rfl rfl rfl ?_
              refine dk_aload_n (pc' := 261) hE dX11_next_260 rfl rfl rfl ?_
              refine gf_11_7 (pc' := 264) hE fl_X11_212 dX11_next_261 is_141 rfl (fun v142 hv142 htv142 hbv142 => ?_)
              have hq142 : v3 = v142 := (show v142 = v3 by rw [hv142, eσ141, dk_up_s]).symm
              subst hq142
              clear htv142 hbv142
              have hn145 : tsg σ141 v3 = tsg σ8c v3 := by rw [eσ141, tsg_up (by decide) (by decide), eσ139, tsg_up (by decide) (by decide), eσ12, tsg_up (by decide) (by decide)]
              refine dk_cV (pc' := 267) (as := [(0, v3)]) hE lk_X11_218 (ct_X11_sign l G hGd v3) dX11_next_264 rfl is_141 rfl (by decide) (Nat.le_of_ble_eq_true rfl) ⟨rfl, (by omega)⟩ rfl (fun r144 σ143 hr144 hor144 => ?_)
              obtain ⟨v146, rfl, hfσ143, hpr144⟩ := hr144
              have hsσ143 : σ141 = σ143 := (funext (fun k => funext (fun j => hfσ143 k j not_false))).symm
              subst hsσ143
              refine dk_cS (pc' := 270) (as := [(0, v146)]) hE lk_X11_237 (ct_X11_isDigit l G hGd v146) dX11_next_267 rfl rfl (by decide) (Nat.le_of_ble_eq_true rfl) rfl rfl (fun r148 σ147 hr148 hor148 => ?_)
              obtain ⟨v149, rfl, hfσ147, hpr148⟩ := hr148
              have hsσ147 : σ141 = σ147 := (funext (fun k => funext (fun j => hfσ147 k j not_false))).symm
              subst hsσ147
              rcases hpr148 with ⟨rfl, hpr148⟩ | ⟨rfl, hpr148⟩
              · skip
                refine dk_if_eq (tgt := 322) (pc' := 273) hE dX11_next_270 (by decide) rfl (fun hc150 => absurd hc150 (by decide)) (fun hc150 => ?_)
                refine dk_aload_n (pc' := 274) hE dX11_next_273 rfl rfl rfl ?_
                refine gf_11_7 (pc' := 277) hE fl_X11_212 dX11_next_274 is_141 rfl (fun v151 hv151 htv151 hbv151 => ?_)
                have hq151 : v3 = v151 := (show v151 = v3 by rw [hv151, hv142]).symm
                subst hq151
                clear htv151 hbv151
                refine dk_aload_n (pc' := 278) hE dX11_next_277 rfl rfl rfl ?_
                refine gf_11_6 (pc' := 281) hE fl_X11_215 dX11_next_278 is_141 rfl (fun v152 hv152 htv152 hbv152 => ?_)
                have hq152 : v3 = v152 := (show v152 = v3 by rw [hv152, eσ141, dk_up_n (show ¬ (141 = 141 ∧ 6 = 7) by omega), hv140]).symm
                subst hq152
                clear htv152 hbv152
                obtain ⟨v153, hv153⟩ : ∃ z : Int, z = v3 - v3 := ⟨_, rfl⟩
                refine dk_isub (pc' := 282) hE dX11_next_281 hv153.symm (by omega) rfl ?_
                refine dk_iconst (pc' := 283) hE dX11_next_282 (by decide) rfl ?_
                refine dk_icmp_ge (tgt := 309) (pc' := 286) hE dX11_next_283 (by decide) rfl (fun hc154 => ?_) (fun hc154 => ?_)
                · skip
                  refine dk_aload_n (pc' := 310) hE dX11_next_309 rfl rfl rfl ?_
                  refine dk_dup (pc' := 311) hE dX11_next_310 (show (4 : Nat) ≠ 3 by decide) rfl ?_
                  refine gf_11_7 (pc' := 314) hE fl_X11_212 dX11_next_311 is_141 rfl (fun v155 hv155 htv155 hbv155 => ?_)
                  have hq155 : v3 = v155 := (show v155 = v3 by rw [hv155, hv151]).symm
                  subst hq155
                  clear htv155 hbv155
                  refine dk_iconst (pc' := 315) hE dX11_next_314 (by decide) rfl ?_
                  obtain ⟨v156, hv156⟩ : ∃ z : Int, z = v3 + 1 := ⟨_, rfl⟩
                  refine dk_iadd (pc' := 316) hE dX11_next_315 hv156.symm (by omega) rfl ?_
                  refine pf_11_7 (pc' := 319) hE fl_X11_212 dX11_next_316 is_141 (by omega) rfl (fun σ157 eσ157 => ?_)
                  refine dk_goto (tgt := 259) hE dX11_next_319 (by decide) ?_
                  have lp259 : ∀ (N_ : Nat) (σ259c : dkS), (1402 - σ259c 141 7).toNat < N_ → ((∀ k_ j_ : Int, ¬ ((k_ = 141 ∧ j_ = 7) ∨ (k_ = 141 ∧ j_ = 9)) → σ259c k_ j_ = σ157 k_ j_)) → (σ259c 141 6 < σ259c 141 7 ∧ σ259c 141 7 ≤ σ 141 3 ∧ σ 141 7 ≤ σ259c 141 6) → (σ259c 141 3 = σ 141 3 ∧ σ259c 141 4 = σ 141 4) → ((σ259c 141 7 - σ259c 141 6 = 1 ∧ σ259c 141 9 ≤ 9) ∨ (σ259c 141 7 - σ259c 141 6 = 2 ∧ σ259c 141 9 ≤ 99) ∨ (σ259c 141 7 - σ259c 141 6 = 3 ∧ σ259c 141 9 ≤ 999) ∨ 4 ≤ σ259c 141 7 - σ259c 141 6) → dk_PJ E 259 [(4, 141), (0, v9), (9, 0)] [] 190 σ259c := by
                    intro N259
                    induction N259 with
                    | zero => intro  σ259c hm; exact absurd hm (Nat.not_lt_zero _)
                    | succ N259 ih259 =>
                      intro  σ259c hm259 hF259 hd hs6 hn
                      refine dk_aload_n (pc' := 260) hE dX11_next_259 rfl rfl rfl ?_
                      refine dk_aload_n (pc' := 261) hE dX11_next_260 rfl rfl rfl ?_
                      refine gf_11_7 (pc' := 264) hE fl_X11_212 dX11_next_261 is_141 rfl (fun v158 hv158 htv158 hbv158 => ?_)
                      refine dk_cV (pc' := 267) (as := [(0, v158)]) hE lk_X11_218 (ct_X11_sign l G hGd v158) dX11_next_264 rfl is_141 rfl (by decide) (Nat.le_of_ble_eq_true rfl) ⟨rfl, (by omega)⟩ rfl (fun r160 σ159 hr160 hor160 => ?_)
                      obtain ⟨v161, rfl, hfσ159, hpr160⟩ := hr160
                      have hsσ159 : σ259c = σ159 := (funext (fun k => funext (fun j => hfσ159 k j not_false))).symm
                      subst hsσ159
                      refine dk_cS (pc' := 270) (as := [(0, v161)]) hE lk_X11_237 (ct_X11_isDigit l G hGd v161) dX11_next_267 rfl rfl (by decide) (Nat.le_of_ble_eq_true rfl) rfl rfl (fun r163 σ162 hr163 hor163 => ?_)
                      obtain ⟨v164, rfl, hfσ162, hpr163⟩ := hr163
                      have hsσ162 : σ259c = σ162 := (funext (fun k => funext (fun j => hfσ162 k j not_false))).symm
                      subst hsσ162
                      rcases hpr163 with ⟨rfl, hpr163⟩ | ⟨rfl, hpr163⟩
                      · skip
                        refine dk_if_eq (tgt := 322) (pc' := 273) hE dX11_next_270 (by decide) rfl (fun hc165 => absurd hc165 (by decide)) (fun hc165 => ?_)
                        refine dk_aload_n (pc' := 274) hE dX11_next_273 rfl rfl rfl ?_
                        refine gf_11_7 (pc' := 277) hE fl_X11_212 dX11_next_274 is_141 rfl (fun v166 hv166 htv166 hbv166 => ?_)
                        have hq166 : v158 = v166 := (show v166 = v158 by rw [hv166, hv158]).symm
                        subst hq166
                        clear htv166 hbv166
                        refine dk_aload_n (pc' := 278) hE dX11_next_277 rfl rfl rfl ?_
                        refine gf_11_6 (pc' := 281) hE fl_X11_215 dX11_next_278 is_141 rfl (fun v167 hv167 htv167 hbv167 => ?_)
                        have hq167 : v3 = v167 := (show v167 = v3 by rw [hv167, hF259 141 6 (by omega), eσ157, dk_up_n (show ¬ (141 = 141 ∧ 6 = 7) by omega), hv152]).symm
                        subst hq167
                        clear htv167 hbv167
                        obtain ⟨v168, hv168⟩ : ∃ z : Int, z = v158 - v3 := ⟨_, rfl⟩
                        refine dk_isub (pc' := 282) hE dX11_next_281 hv168.symm (by omega) rfl ?_
                        refine dk_iconst (pc' := 283) hE dX11_next_282 (by decide) rfl ?_
                        refine dk_icmp_ge (tgt := 309) (pc' := 286) hE dX11_next_283 (by decide) rfl (fun hc169 => ?_) (fun hc169 => ?_)
                        · skip
                          refine dk_aload_n (pc' := 310) hE dX11_next_309 rfl rfl rfl ?_
                          refine dk_dup (pc' := 311) hE dX11_next_310 (show (4 : Nat) ≠ 3 by decide) rfl ?_
                          refine gf_11_7 (pc' := 314) hE fl_X11_212 dX11_next_311 is_141 rfl (fun v170 hv170 htv170 hbv170 => ?_)
                          have hq170 : v158 = v170 := (show v170 = v158 by rw [hv170, hv166]).symm
                          subst hq170
                          clear htv170 hbv170
                          refine dk_iconst (pc' := 315) hE dX11_next_314 (by decide) rfl ?_
                          obtain ⟨v171, hv171⟩ : ∃ z : Int, z = v158 + 1 := ⟨_, rfl⟩
                          refine dk_iadd (pc' := 316) hE dX11_next_315 hv171.symm (by omega) rfl ?_
                          refine pf_11_7 (pc' := 319) hE fl_X11_212 dX11_next_316 is_141 (by omega) rfl (fun σ172 eσ172 => ?_)
                          refine dk_goto (tgt := 259) hE dX11_next_319 (by decide) ?_
                          have hz172_141_6 := (show σ172 141 6 = _ by rw [eσ172, dk_up_n (show ¬ (141 = 141 ∧ 6 = 7) by omega)])
                          have hz173_141_7 : σ172 141 7 = v171 := by rw [eσ172, dk_up_s]
                          have hz174_141_3 := (show σ172 141 3 = _ by rw [eσ172, dk_up_n (show ¬ (141 = 141 ∧ 3 = 7) by omega)])
                          have hz175_141_4 := (show σ172 141 4 = _ by rw [eσ172, dk_up_n (show ¬ (141 = 141 ∧ 4 = 7) by omega)])
                          have hz176_141_9 := (show σ172 141 9 = _ by rw [eσ172, dk_up_n (show ¬ (141 = 141 ∧ 9 = 7) by omega)])
                          exact ih259 σ172 (by omega) (fun k_ j_ h_ => by rw [eσ172, dk_up_n (show ¬ (k_ = 141 ∧ j_ = 7) from fun q_ => h_ (Or.inl (q_))), hF259 k_ j_ (fun w_ => h_ (w_.elim (fun x0_ => Or.inl (x0_)) (fun y0_ => Or.inr (y0_))))]) (by omega) (by omega) (by omega)
                        · skip
                          refine dk_aload_n (pc' := 287) hE dX11_next_286 rfl rfl rfl ?_
                          refine dk_bipush (pc' := 289) hE dX11_next_287 (by decide) rfl ?_
                          refine dk_aload_n (pc' := 290) hE dX11_next_289 rfl rfl rfl ?_
                          refine gf_11_9 (pc' := 293) hE fl_X11_240 dX11_next_290 is_141 rfl (fun v178 hv178 htv178 hbv178 => ?_)
                          obtain ⟨v179, hv179⟩ : ∃ z : Int, z = 10 * v178 := ⟨_, rfl⟩
                          refine dk_imul (pc' := 294) hE dX11_next_293 hv179.symm (by omega) rfl ?_
                          refine dk_aload_n (pc' := 295) hE dX11_next_294 rfl rfl rfl ?_
                          refine dk_aload_n (pc' := 296) hE dX11_next_295 rfl rfl rfl ?_
                          refine gf_11_7 (pc' := 299) hE fl_X11_212 dX11_next_296 is_141 rfl (fun v180 hv180 htv180 hbv180 => ?_)
                          have hq180 : v158 = v180 := (show v180 = v158 by rw [hv180, hv166]).symm
                          subst hq180
                          clear htv180 hbv180
                          refine dk_cV (pc' := 302) (as := [(0, v158)]) hE lk_X11_218 (ct_X11_sign l G hGd v158) dX11_next_299 rfl is_141 rfl (by decide) (Nat.le_of_ble_eq_true rfl) ⟨rfl, (by omega)⟩ rfl (fun r182 σ181 hr182 hor182 => ?_)
                          obtain ⟨v183, rfl, hfσ181, hpr182⟩ := hr182
                          have hsσ181 : σ259c = σ181 := (funext (fun k => funext (fun j => hfσ181 k j not_false))).symm
                          subst hsσ181
                          obtain ⟨v184, hv184⟩ : ∃ z : Int, z = v179 + v183 := ⟨_, rfl⟩
                          refine dk_iadd (pc' := 303) hE dX11_next_302 hv184.symm (by omega) rfl ?_
                          refine dk_bipush (pc' := 305) hE dX11_next_303 (by decide) rfl ?_
                          obtain ⟨v185, hv185⟩ : ∃ z : Int, z = v184 - 48 := ⟨_, rfl⟩
                          refine dk_isub (pc' := 306) hE dX11_next_305 hv185.symm (by omega) rfl ?_
                          refine pf_11_9 (pc' := 309) hE fl_X11_240 dX11_next_306 is_141 (by omega) rfl (fun σ186 eσ186 => ?_)
                          refine dk_aload_n (pc' := 310) hE dX11_next_309 rfl rfl rfl ?_
                          refine dk_dup (pc' := 311) hE dX11_next_310 (show (4 : Nat) ≠ 3 by decide) rfl ?_
                          refine gf_11_7 (pc' := 314) hE fl_X11_212 dX11_next_311 is_141 rfl (fun v187 hv187 htv187 hbv187 => ?_)
                          have hq187 : v158 = v187 := (show v187 = v158 by rw [hv187, eσ186, dk_up_n (show ¬ (141 = 141 ∧ 7 = 9) by omega), hv180]).symm
                          subst hq187
                          clear htv187 hbv187
                          refine dk_iconst (pc' := 315) hE dX11_next_314 (by decide) rfl ?_
                          obtain ⟨v188, hv188⟩ : ∃ z : Int, z = v158 + 1 := ⟨_, rfl⟩
                          refine dk_iadd (pc' := 316) hE dX11_next_315 hv188.symm (by omega) rfl ?_
                          refine pf_11_7 (pc' := 319) hE fl_X11_212 dX11_next_316 is_141 (by omega) rfl (fun σ189 eσ189 => ?_)
                          refine dk_goto (tgt := 259) hE dX11_next_319 (by decide) ?_
                          have hz189_141_6 := (show σ189 141 6 = _ by rw [eσ189, dk_up_n (show ¬ (141 = 141 ∧ 6 = 7) by omega), eσ186, dk_up_n (show ¬ (141 = 141 ∧ 6 = 9) by omega)])
                          have hz190_141_7 : σ189 141 7 = v188 := by rw [eσ189, dk_up_s]
                          have hz191_141_3 := (show σ189 141 3 = _ by rw [eσ189, dk_up_n (show ¬ (141 = 141 ∧ 3 = 7) by omega), eσ186, dk_up_n (show ¬ (141 = 141 ∧ 3 = 9) by omega)])
                          have hz192_141_4 := (show σ189 141 4 = _ by rw [eσ189, dk_up_n (show ¬ (141 = 141 ∧ 4 = 7) by omega), eσ186, dk_up_n (show ¬ (141 = 141 ∧ 4 = 9) by omega)])
                          have hz193_141_9 : σ189 141 9 = v185 := by rw [eσ189, dk_up_n (show ¬ (141 = 141 ∧ 9 = 7) by omega), eσ186, dk_up_s]
                          exact ih259 σ189 (by omega) (fun k_ j_ h_ => by rw [eσ189, dk_up_n (show ¬ (k_ = 141 ∧ j_ = 7) from fun q_ => h_ (Or.inl (q_))), eσ186, dk_up_n (show ¬ (k_ = 141 ∧ j_ = 9) from fun q_ => h_ (Or.inr (q_))), hF259 k_ j_ (fun w_ => h_ (w_.elim (fun x0_ => Or.inl (x0_)) (fun y0_ => Or.inr (y0_))))]) (by omega) (by omega) (by omega)
                      · skip
                        refine dk_if_eq (tgt := 322) (pc' := 273) hE dX11_next_270 (by decide) rfl (fun hc195 => ?_) (fun hc195 => absurd hc195 (by decide))
                        refine dk_aload_n (pc' := 323) hE dX11_next_322 rfl rfl rfl ?_
                        refine dk_aload_n (pc' := 324) hE dX11_next_323 rfl rfl rfl ?_
                        refine gf_11_7 (pc' := 327) hE fl_X11_212 dX11_next_324 is_141 rfl (fun v196 hv196 htv196 hbv196 => ?_)
                        have hq196 : v158 = v196 := (show v196 = v158 by rw [hv196, hv158]).symm
                        subst hq196
                        clear htv196 hbv196
                        refine dk_aload_n (pc' := 328) hE dX11_next_327 rfl rfl rfl ?_
                        refine gf_11_6 (pc' := 331) hE fl_X11_215 dX11_next_328 is_141 rfl (fun v197 hv197 htv197 hbv197 => ?_)
                        have hq197 : v3 = v197 := (show v197 = v3 by rw [hv197, hF259 141 6 (by omega), eσ157, dk_up_n (show ¬ (141 = 141 ∧ 6 = 7) by omega), hv152]).symm
                        subst hq197
                        clear htv197 hbv197
                        obtain ⟨v198, hv198⟩ : ∃ z : Int, z = v158 - v3 := ⟨_, rfl⟩
                        refine dk_isub (pc' := 332) hE dX11_next_331 hv198.symm (by omega) rfl ?_
                        refine dk_iconst (pc' := 333) hE dX11_next_332 (by decide) rfl ?_
                        refine dk_icmp_gt (tgt := 350) (pc' := 336) hE dX11_next_333 (by decide) rfl (fun hc199 => ?_) (fun hc199 => ?_)
                        · skip
                          refine dk_iconst (pc' := 351) hE dX11_next_350 (by decide) rfl ?_
                          refine dk_goto (tgt := 355) hE dX11_next_351 (by decide) ?_
                          refine pf_11_8 (pc' := 358) hE fl_X11_222 dX11_next_355 is_141 (by omega) rfl (fun σ200 eσ200 => ?_)
                          refine dk_goto (tgt := 377) hE dX11_next_358 (by decide) ?_
                          have hz201 : σ200 141 3 = v4 := by rw [eσ200, dk_up_n (show ¬ (141 = 141 ∧ 3 = 8) by omega), hF259 141 3 (by omega), eσ157, dk_up_n (show ¬ (141 = 141 ∧ 3 = 7) by omega), eσ141, dk_up_n (show ¬ (141 = 141 ∧ 3 = 7) by omega), eσ139, dk_up_n (show ¬ (141 = 141 ∧ 3 = 9) by omega), hv14]
                          have hz202 : σ200 141 4 = σ 141 4 := by rw [eσ200, dk_up_n (show ¬ (141 = 141 ∧ 4 = 8) by omega), hF259 141 4 (by omega), eσ157, dk_up_n (show ¬ (141 = 141 ∧ 4 = 7) by omega), eσ141, dk_up_n (show ¬ (141 = 141 ∧ 4 = 7) by omega), eσ139, dk_up_n (show ¬ (141 = 141 ∧ 4 = 9) by omega), eσ12, dk_up_n (show ¬ (141 = 141 ∧ 4 = 7) by omega), hF8 141 4 (by omega), eσ2, dk_up_n (show ¬ (141 = 141 ∧ 4 = 6) by omega)]
                          have hz203 : σ200 141 6 = v3 := by rw [eσ200, dk_up_n (show ¬ (141 = 141 ∧ 6 = 8) by omega), hv197]
                          have hz204 : σ200 141 7 = v158 := by rw [eσ200, dk_up_n (show ¬ (141 = 141 ∧ 7 = 8) by omega), hv196]
                          have hz205 : σ200 141 8 = 1 := by rw [eσ200, dk_up_s]
                          exact dk_vret (st := []) hE hR dX11_next_377 ⟨rfl, (fun k_ j_ h_ => by rw [eσ200, dk_up_n (show ¬ (k_ = 141 ∧ j_ = 8) from fun q_ => h_ (Or.inr (Or.inr (Or.inl (q_))))), hF259 k_ j_ (fun w_ => h_ (w_.elim (fun x0_ => Or.inr (Or.inl (x0_))) (fun y0_ => Or.inr (Or.inr (Or.inr (Or.inl (y0_))))))), eσ157, dk_up_n (show ¬ (k_ = 141 ∧ j_ = 7) from fun q_ => h_ (Or.inr (Or.inl (q_)))), eσ141, dk_up_n (show ¬ (k_ = 141 ∧ j_ = 7) from fun q_ => h_ (Or.inr (Or.inl (q_)))), eσ139, dk_up_n (show ¬ (k_ = 141 ∧ j_ = 9) from fun q_ => h_ (Or.inr (Or.inr (Or.inr (Or.inl (q_)))))), eσ12, dk_up_n (show ¬ (k_ = 141 ∧ j_ = 7) from fun q_ => h_ (Or.inr (Or.inl (q_)))), hF8 k_ j_ (fun w_ => h_ (Or.inl (w_))), eσ2, dk_up_n (show ¬ (k_ = 141 ∧ j_ = 6) from fun q_ => h_ (Or.inl (q_)))]), NY_of (by omega) (by omega) (by omega) (by omega) (by omega)⟩
                        · skip
                          refine dk_aload_n (pc' := 337) hE dX11_next_336 rfl rfl rfl ?_
                          refine dk_aload_n (pc' := 338) hE dX11_next_337 rfl rfl rfl ?_
                          refine gf_11_7 (pc' := 341) hE fl_X11_212 dX11_next_338 is_141 rfl (fun v206 hv206 htv206 hbv206 => ?_)
                          have hq206 : v158 = v206 := (show v206 = v158 by rw [hv206, hv196]).symm
                          subst hq206
                          clear htv206 hbv206
                          refine dk_cV (pc' := 344) (as := [(0, v158)]) hE lk_X11_218 (ct_X11_sign l G hGd v158) dX11_next_341 rfl is_141 rfl (by decide) (Nat.le_of_ble_eq_true rfl) ⟨rfl, (by omega)⟩ rfl (fun r208 σ207 hr208 hor208 => ?_)
                          obtain ⟨v209, rfl, hfσ207, hpr208⟩ := hr208
                          have hsσ207 : σ259c = σ207 := (funext (fun k => funext (fun j => hfσ207 k j not_false))).symm
                          subst hsσ207
                          refine dk_cS (pc' := 347) (as := [(0, v209)]) hE lk_X11_225 (ct_X11_isLetter l G hGd v209) dX11_next_344 rfl rfl (by decide) (Nat.le_of_ble_eq_true rfl) rfl rfl (fun r211 σ210 hr211 hor211 => ?_)
                          obtain ⟨v212, rfl, hfσ210, hpr211⟩ := hr211
                          have hsσ210 : σ259c = σ210 := (funext (fun k => funext (fun j => hfσ210 k j not_false))).symm
                          subst hsσ210
                          rcases hpr211 with ⟨rfl, hpr211⟩ | ⟨rfl, hpr211⟩
                          · skip
                            refine dk_if_eq (tgt := 354) (pc' := 350) hE dX11_next_347 (by decide) rfl (fun hc213 => absurd hc213 (by decide)) (fun hc213 => ?_)
                            refine dk_iconst (pc' := 351) hE dX11_next_350 (by decide) rfl ?_
                            refine dk_goto (tgt := 355) hE dX11_next_351 (by decide) ?_
                            refine pf_11_8 (pc' := 358) hE fl_X11_222 dX11_next_355 is_141 (by omega) rfl (fun σ214 eσ214 => ?_)
                            refine dk_goto (tgt := 377) hE dX11_next_358 (by decide) ?_
                            have hz215 : σ214 141 3 = v4 := by rw [eσ214, dk_up_n (show ¬ (141 = 141 ∧ 3 = 8) by omega), hF259 141 3 (by omega), eσ157, dk_up_n (show ¬ (141 = 141 ∧ 3 = 7) by omega), eσ141, dk_up_n (show ¬ (141 = 141 ∧ 3 = 7) by omega), eσ139, dk_up_n (show ¬ (141 = 141 ∧ 3 = 9) by omega), hv14]
                            have hz216 : σ214 141 4 = σ 141 4 := by rw [eσ214, dk_up_n (show ¬ (141 = 141 ∧ 4 = 8) by omega), hF259 141 4 (by omega), eσ157, dk_up_n (show ¬ (141 = 141 ∧ 4 = 7) by omega), eσ141, dk_up_n (show ¬ (141 = 141 ∧ 4 = 7) by omega), eσ139, dk_up_n (show ¬ (141 = 141 ∧ 4 = 9) by omega), eσ12, dk_up_n (show ¬ (141 = 141 ∧ 4 = 7) by omega), hF8 141 4 (by omega), eσ2, dk_up_n (show ¬ (141 = 141 ∧ 4 = 6) by omega)]
                            have hz217 : σ214 141 6 = v3 := by rw [eσ214, dk_up_n (show ¬ (141 = 141 ∧ 6 = 8) by omega), hv197]
                            have hz218 : σ214 141 7 = v158 := by rw [eσ214, dk_up_n (show ¬ (141 = 141 ∧ 7 = 8) by omega), hv206]
                            have hz219 : σ214 141 8 = 1 := by rw [eσ214, dk_up_s]
                            exact dk_vret (st := []) hE hR dX11_next_377 ⟨rfl, (fun k_ j_ h_ => by rw [eσ214, dk_up_n (show ¬ (k_ = 141 ∧ j_ = 8) from fun q_ => h_ (Or.inr (Or.inr (Or.inl (q_))))), hF259 k_ j_ (fun w_ => h_ (w_.elim (fun x0_ => Or.inr (Or.inl (x0_))) (fun y0_ => Or.inr (Or.inr (Or.inr (Or.inl (y0_))))))), eσ157, dk_up_n (show ¬ (k_ = 141 ∧ j_ = 7) from fun q_ => h_ (Or.inr (Or.inl (q_)))), eσ141, dk_up_n (show ¬ (k_ = 141 ∧ j_ = 7) from fun q_ => h_ (Or.inr (Or.inl (q_)))), eσ139, dk_up_n (show ¬ (k_ = 141 ∧ j_ = 9) from fun q_ => h_ (Or.inr (Or.inr (Or.inr (Or.inl (q_)))))), eσ12, dk_up_n (show ¬ (k_ = 141 ∧ j_ = 7) from fun q_ => h_ (Or.inr (Or.inl (q_)))), hF8 k_ j_ (fun w_ => h_ (Or.inl (w_))), eσ2, dk_up_n (show ¬ (k_ = 141 ∧ j_ = 6) from fun q_ => h_ (Or.inl (q_)))]), NY_of (by omega) (by omega) (by omega) (by omega) (by omega)⟩
                          · skip
                            refine dk_if_eq (tgt := 354) (pc' := 350) hE dX11_next_347 (by decide) rfl (fun hc220 => ?_) (fun hc220 => absurd hc220 (by decide))
                            refine dk_iconst (pc' := 355) hE dX11_next_354 (by decide) rfl ?_
                            refine pf_11_8 (pc' := 358) hE fl_X11_222 dX11_next_355 is_141 (by omega) rfl (fun σ221 eσ221 => ?_)
                            refine dk_goto (tgt := 377) hE dX11_next_358 (by decide) ?_
                            have hz222 : σ221 141 3 = v4 := by rw [eσ221, dk_up_n (show ¬ (141 = 141 ∧ 3 = 8) by omega), hF259 141 3 (by omega), eσ157, dk_up_n (show ¬ (141 = 141 ∧ 3 = 7) by omega), eσ141, dk_up_n (show ¬ (141 = 141 ∧ 3 = 7) by omega), eσ139, dk_up_n (show ¬ (141 = 141 ∧ 3 = 9) by omega), hv14]
                            have hz223 : σ221 141 4 = σ 141 4 := by rw [eσ221, dk_up_n (show ¬ (141 = 141 ∧ 4 = 8) by omega), hF259 141 4 (by omega), eσ157, dk_up_n (show ¬ (141 = 141 ∧ 4 = 7) by omega), eσ141, dk_up_n (show ¬ (141 = 141 ∧ 4 = 7) by omega), eσ139, dk_up_n (show ¬ (141 = 141 ∧ 4 = 9) by omega), eσ12, dk_up_n (show ¬ (141 = 141 ∧ 4 = 7) by omega), hF8 141 4 (by omega), eσ2, dk_up_n (show ¬ (141 = 141 ∧ 4 = 6) by omega)]
                            have hz224 : σ221 141 6 = v3 := by rw [eσ221, dk_up_n (show ¬ (141 = 141 ∧ 6 = 8) by omega), hv197]
                            have hz225 : σ221 141 7 = v158 := by rw [eσ221, dk_up_n (show ¬ (141 = 141 ∧ 7 = 8) by omega), hv206]
                            have hz226 : σ221 141 8 = 4 := by rw [eσ221, dk_up_s]
                            exact dk_vret (st := []) hE hR dX11_next_377 ⟨rfl, (fun k_ j_ h_ => by rw [eσ221, dk_up_n (show ¬ (k_ = 141 ∧ j_ = 8) from fun q_ => h_ (Or.inr (Or.inr (Or.inl (q_))))), hF259 k_ j_ (fun w_ => h_ (w_.elim (fun x0_ => Or.inr (Or.inl (x0_))) (fun y0_ => Or.inr (Or.inr (Or.inr (Or.inl (y0_))))))), eσ157, dk_up_n (show ¬ (k_ = 141 ∧ j_ = 7) from fun q_ => h_ (Or.inr (Or.inl (q_)))), eσ141, dk_up_n (show ¬ (k_ = 141 ∧ j_ = 7) from fun q_ => h_ (Or.inr (Or.inl (q_)))), eσ139, dk_up_n (show ¬ (k_ = 141 ∧ j_ = 9) from fun q_ => h_ (Or.inr (Or.inr (Or.inr (Or.inl (q_)))))), eσ12, dk_up_n (show ¬ (k_ = 141 ∧ j_ = 7) from fun q_ => h_ (Or.inr (Or.inl (q_)))), hF8 k_ j_ (fun w_ => h_ (Or.inl (w_))), eσ2, dk_up_n (show ¬ (k_ = 141 ∧ j_ = 6) from fun q_ => h_ (Or.inl (q_)))]), NY_of (by omega) (by omega) (by omega) (by omega) (by omega)⟩
                  have hz227 : σ157 141 6 = v3 := by rw [eσ157, dk_up_n (show ¬ (141 = 141 ∧ 6 = 7) by omega), hv152]
                  have hz228 : σ157 141 7 = v156 := by rw [eσ157, dk_up_s]
                  have hz229 : σ157 141 7 = v156 := by rw [eσ157, dk_up_s]
                  have hz230 : σ157 141 6 = v3 := by rw [eσ157, dk_up_n (show ¬ (141 = 141 ∧ 6 = 7) by omega), hv152]
                  have hz231 : σ157 141 3 = v4 := by rw [eσ157, dk_up_n (show ¬ (141 = 141 ∧ 3 = 7) by omega), eσ141, dk_up_n (show ¬ (141 = 141 ∧ 3 = 7) by omega), eσ139, dk_up_n (show ¬ (141 = 141 ∧ 3 = 9) by omega), hv14]
                  have hz232 : σ157 141 4 = σ 141 4 := by rw [eσ157, dk_up_n (show ¬ (141 = 141 ∧ 4 = 7) by omega), eσ141, dk_up_n (show ¬ (141 = 141 ∧ 4 = 7) by omega), eσ139, dk_up_n (show ¬ (141 = 141 ∧ 4 = 9) by omega), eσ12, dk_up_n (show ¬ (141 = 141 ∧ 4 = 7) by omega), hF8 141 4 (by omega), eσ2, dk_up_n (show ¬ (141 = 141 ∧ 4 = 6) by omega)]
                  have hz233 : σ157 141 7 = v156 := by rw [eσ157, dk_up_s]
                  have hz234 : σ157 141 6 = v3 := by rw [eσ157, dk_up_n (show ¬ (141 = 141 ∧ 6 = 7) by omega), hv152]
                  have hz235 : σ157 141 9 = 0 := by rw [eσ157, dk_up_n (show ¬ (141 = 141 ∧ 9 = 7) by omega), eσ141, dk_up_n (show ¬ (141 = 141 ∧ 9 = 7) by omega), eσ139, dk_up_s]
                  have hz236 : σ157 141 7 = v156 := by rw [eσ157, dk_up_s]
                  have hz237 : σ157 141 6 = v3 := by rw [eσ157, dk_up_n (show ¬ (141 = 141 ∧ 6 = 7) by omega), hv152]
                  have hz238 : σ157 141 9 = 0 := by rw [eσ157, dk_up_n (show ¬ (141 = 141 ∧ 9 = 7) by omega), eσ141, dk_up_n (show ¬ (141 = 141 ∧ 9 = 7) by omega), eσ139, dk_up_s]
                  have hz239 : σ157 141 7 = v156 := by rw [eσ157, dk_up_s]
                  have hz240 : σ157 141 6 = v3 := by rw [eσ157, dk_up_n (show ¬ (141 = 141 ∧ 6 = 7) by omega), hv152]
                  have hz241 : σ157 141 9 = 0 := by rw [eσ157, dk_up_n (show ¬ (141 = 141 ∧ 9 = 7) by omega), eσ141, dk_up_n (show ¬ (141 = 141 ∧ 9 = 7) by omega), eσ139, dk_up_s]
                  have hz242 : σ157 141 7 = v156 := by rw [eσ157, dk_up_s]
                  have hz243 : σ157 141 6 = v3 := by rw [eσ157, dk_up_n (show ¬ (141 = 141 ∧ 6 = 7) by omega), hv152]
                  have hz244 : σ157 141 7 = v156 := by rw [eσ157, dk_up_s]
                  have hz245_141_7 : σ157 141 7 = v156 := by rw [eσ157, dk_up_s]
                  have hz248_141_9 : σ157 141 9 = 0 := by rw [eσ157, dk_up_n (show ¬ (141 = 141 ∧ 9 = 7) by omega), eσ141, dk_up_n (show ¬ (141 = 141 ∧ 9 = 7) by omega), eσ139, dk_up_s]
                  exact lp259 _ σ157 (Nat.lt_succ_self _) (fun k_ j_ h_ => rfl) (by omega) (by omega) (by omega)
                · skip
                  refine dk_aload_n (pc' := 287) hE dX11_next_286 rfl rfl rfl ?_
                  refine dk_bipush (pc' := 289) hE dX11_next_287 (by decide) rfl ?_
                  refine dk_aload_n (pc' := 290) hE dX11_next_289 rfl rfl rfl ?_
                  refine gf_11_9 (pc' := 293) hE fl_X11_240 dX11_next_290 is_141 rfl (fun v250 hv250 htv250 hbv250 => ?_)
                  have hq250 : 0 = v250 := (show v250 = 0 by rw [hv250, eσ141, dk_up_n (show ¬ (141 = 141 ∧ 9 = 7) by omega), eσ139, dk_up_s]).symm
                  subst hq250
                  clear htv250 hbv250
                  refine dk_imul (pc' := 294) hE dX11_next_293 (z := 0) (by decide) (by decide) rfl ?_
                  refine dk_aload_n (pc' := 295) hE dX11_next_294 rfl rfl rfl ?_
                  refine dk_aload_n (pc' := 296) hE dX11_next_295 rfl rfl rfl ?_
                  refine gf_11_7 (pc' := 299) hE fl_X11_212 dX11_next_296 is_141 rfl (fun v251 hv251 htv251 hbv251 => ?_)
                  have hq251 : v3 = v251 := (show v251 = v3 by rw [hv251, hv151]).symm
                  subst hq251
                  clear htv251 hbv251
                  refine dk_cV (pc' := 302) (as := [(0, v3)]) hE lk_X11_218 (ct_X11_sign l G hGd v3) dX11_next_299 rfl is_141 rfl (by decide) (Nat.le_of_ble_eq_true rfl) ⟨rfl, (by omega)⟩ rfl (fun r253 σ252 hr253 hor253 => ?_)
                  obtain ⟨v254, rfl, hfσ252, hpr253⟩ := hr253
                  have hsσ252 : σ141 = σ252 := (funext (fun k => funext (fun j => hfσ252 k j not_false))).symm
                  subst hsσ252
                  obtain ⟨v255, hv255⟩ : ∃ z : Int, z = 0 + v254 := ⟨_, rfl⟩
                  refine dk_iadd (pc' := 303) hE dX11_next_302 hv255.symm (by omega) rfl ?_
                  refine dk_bipush (pc' := 305) hE dX11_next_303 (by decide) rfl ?_
                  obtain ⟨v256, hv256⟩ : ∃ z : Int, z = v255 - 48 := ⟨_, rfl⟩
                  refine dk_isub (pc' := 306) hE dX11_next_305 hv256.symm (by omega) rfl ?_
                  refine pf_11_9 (pc' := 309) hE fl_X11_240 dX11_next_306 is_141 (by omega) rfl (fun σ257 eσ257 => ?_)
                  refine dk_aload_n (pc' := 310) hE dX11_next_309 rfl rfl rfl ?_
                  refine dk_dup (pc' := 311) hE dX11_next_310 (show (4 : Nat) ≠ 3 by decide) rfl ?_
                  refine gf_11_7 (pc' := 314) hE fl_X11_212 dX11_next_311 is_141 rfl (fun v258 hv258 htv258 hbv258 => ?_)
                  have hq258 : v3 = v258 := (show v258 = v3 by rw [hv258, eσ257, dk_up_n (show ¬ (141 = 141 ∧ 7 = 9) by omega), hv251]).symm
                  subst hq258
                  clear htv258 hbv258
                  refine dk_iconst (pc' := 315) hE dX11_next_314 (by decide) rfl ?_
                  obtain ⟨v259, hv259⟩ : ∃ z : Int, z = v3 + 1 := ⟨_, rfl⟩
                  refine dk_iadd (pc' := 316) hE dX11_next_315 hv259.symm (by omega) rfl ?_
                  refine pf_11_7 (pc' := 319) hE fl_X11_212 dX11_next_316 is_141 (by omega) rfl (fun σ260 eσ260 => ?_)
                  refine dk_goto (tgt := 259) hE dX11_next_319 (by decide) ?_
                  have lp259 : ∀ (N_ : Nat) (σ259c : dkS), (1402 - σ259c 141 7).toNat < N_ → ((∀ k_ j_ : Int, ¬ ((k_ = 141 ∧ j_ = 7) ∨ (k_ = 141 ∧ j_ = 9)) → σ259c k_ j_ = σ260 k_ j_)) → (σ259c 141 6 < σ259c 141 7 ∧ σ259c 141 7 ≤ σ 141 3 ∧ σ 141 7 ≤ σ259c 141 6) → (σ259c 141 3 = σ 141 3 ∧ σ259c 141 4 = σ 141 4) → ((σ259c 141 7 - σ259c 141 6 = 1 ∧ σ259c 141 9 ≤ 9) ∨ (σ259c 141 7 - σ259c 141 6 = 2 ∧ σ259c 141 9 ≤ 99) ∨ (σ259c 141 7 - σ259c 141 6 = 3 ∧ σ259c 141 9 ≤ 999) ∨ 4 ≤ σ259c 141 7 - σ259c 141 6) → dk_PJ E 259 [(4, 141), (0, v9), (9, 0)] [] 190 σ259c := by
                    intro N259
                    induction N259 with
                    | zero => intro  σ259c hm; exact absurd hm (Nat.not_lt_zero _)
                    | succ N259 ih259 =>
                      intro  σ259c hm259 hF259 hd hs6 hn
                      refine dk_aload_n (pc' := 260) hE dX11_next_259 rfl rfl rfl ?_
                      refine dk_aload_n (pc' := 261) hE dX11_next_260 rfl rfl rfl ?_
                      refine gf_11_7 (pc' := 264) hE fl_X11_212 dX11_next_261 is_141 rfl (fun v261 hv261 htv261 hbv261 => ?_)
                      refine dk_cV (pc' := 267) (as := [(0, v261)]) hE lk_X11_218 (ct_X11_sign l G hGd v261) dX11_next_264 rfl is_141 rfl (by decide) (Nat.le_of_ble_eq_true rfl) ⟨rfl, (by omega)⟩ rfl (fun r263 σ262 hr263 hor263 => ?_)
                      obtain ⟨v264, rfl, hfσ262, hpr263⟩ := hr263
                      have hsσ262 : σ259c = σ262 := (funext (fun k => funext (fun j => hfσ262 k j not_false))).symm
                      subst hsσ262
                      refine dk_cS (pc' := 270) (as := [(0, v264)]) hE lk_X11_237 (ct_X11_isDigit l G hGd v264) dX11_next_267 rfl rfl (by decide) (Nat.le_of_ble_eq_true rfl) rfl rfl (fun r266 σ265 hr266 hor266 => ?_)
                      obtain ⟨v267, rfl, hfσ265, hpr266⟩ := hr266
                      have hsσ265 : σ259c = σ265 := (funext (fun k => funext (fun j => hfσ265 k j not_false))).symm
                      subst hsσ265
                      rcases hpr266 with ⟨rfl, hpr266⟩ | ⟨rfl, hpr266⟩
                      · skip
                        refine dk_if_eq (tgt := 322) (pc' := 273) hE dX11_next_270 (by decide) rfl (fun hc268 => absurd hc268 (by decide)) (fun hc268 => ?_)
                        refine dk_aload_n (pc' := 274) hE dX11_next_273 rfl rfl rfl ?_
                        refine gf_11_7 (pc' := 277) hE fl_X11_212 dX11_next_274 is_141 rfl (fun v269 hv269 htv269 hbv269 => ?_)
                        have hq269 : v261 = v269 := (show v269 = v261 by rw [hv269, hv261]).symm
                        subst hq269
                        clear htv269 hbv269
                        refine dk_aload_n (pc' := 278) hE dX11_next_277 rfl rfl rfl ?_
                        refine gf_11_6 (pc' := 281) hE fl_X11_215 dX11_next_278 is_141 rfl (fun v270 hv270 htv270 hbv270 => ?_)
                        have hq270 : v3 = v270 := (show v270 = v3 by rw [hv270, hF259 141 6 (by omega), eσ260, dk_up_n (show ¬ (141 = 141 ∧ 6 = 7) by omega), eσ257, dk_up_n (show ¬ (141 = 141 ∧ 6 = 9) by omega), hv152]).symm
                        subst hq270
                        clear htv270 hbv270
                        obtain ⟨v271, hv271⟩ : ∃ z : Int, z = v261 - v3 := ⟨_, rfl⟩
                        refine dk_isub (pc' := 282) hE dX11_next_281 hv271.symm (by omega) rfl ?_
                        refine dk_iconst (pc' := 283) hE dX11_next_282 (by decide) rfl ?_
                        refine dk_icmp_ge (tgt := 309) (pc' := 286) hE dX11_next_283 (by decide) rfl (fun hc272 => ?_) (fun hc272 => ?_)
                        · skip
                          refine dk_aload_n (pc' := 310) hE dX11_next_309 rfl rfl rfl ?_
                          refine dk_dup (pc' := 311) hE dX11_next_310 (show (4 : Nat) ≠ 3 by decide) rfl ?_
                          refine gf_11_7 (pc' := 314) hE fl_X11_212 dX11_next_311 is_141 rfl (fun v273 hv273 htv273 hbv273 => ?_)
                          have hq273 : v261 = v273 := (show v273 = v261 by rw [hv273, hv269]).symm
                          subst hq273
                          clear htv273 hbv273
                          refine dk_iconst (pc' := 315) hE dX11_next_314 (by decide) rfl ?_
                          obtain ⟨v274, hv274⟩ : ∃ z : Int, z = v261 + 1 := ⟨_, rfl⟩
                          refine dk_iadd (pc' := 316) hE dX11_next_315 hv274.symm (by omega) rfl ?_
                          refine pf_11_7 (pc' := 319) hE fl_X11_212 dX11_next_316 is_141 (by omega) rfl (fun σ275 eσ275 => ?_)
                          refine dk_goto (tgt := 259) hE dX11_next_319 (by decide) ?_
                          have hz275_141_6 := (show σ275 141 6 = _ by rw [eσ275, dk_up_n (show ¬ (141 = 141 ∧ 6 = 7) by omega)])
                          have hz276_141_7 : σ275 141 7 = v274 := by rw [eσ275, dk_up_s]
                          have hz277_141_3 := (show σ275 141 3 = _ by rw [eσ275, dk_up_n (show ¬ (141 = 141 ∧ 3 = 7) by omega)])
                          have hz278_141_4 := (show σ275 141 4 = _ by rw [eσ275, dk_up_n (show ¬ (141 = 141 ∧ 4 = 7) by omega)])
                          have hz279_141_9 := (show σ275 141 9 = _ by rw [eσ275, dk_up_n (show ¬ (141 = 141 ∧ 9 = 7) by omega)])
                          exact ih259 σ275 (by omega) (fun k_ j_ h_ => by rw [eσ275, dk_up_n (show ¬ (k_ = 141 ∧ j_ = 7) from fun q_ => h_ (Or.inl (q_))), hF259 k_ j_ (fun w_ => h_ (w_.elim (fun x0_ => Or.inl (x0_)) (fun y0_ => Or.inr (y0_))))]) (by omega) (by omega) (by omega)
                        · skip
                          refine dk_aload_n (pc' := 287) hE dX11_next_286 rfl rfl rfl ?_
                          refine dk_bipush (pc' := 289) hE dX11_next_287 (by decide) rfl ?_
                          refine dk_aload_n (pc' := 290) hE dX11_next_289 rfl rfl rfl ?_
                          refine gf_11_9 (pc' := 293) hE fl_X11_240 dX11_next_290 is_141 rfl (fun v281 hv281 htv281 hbv281 => ?_)
                          obtain ⟨v282, hv282⟩ : ∃ z : Int, z = 10 * v281 := ⟨_, rfl⟩
                          refine dk_imul (pc' := 294) hE dX11_next_293 hv282.symm (by omega) rfl ?_
                          refine dk_aload_n (pc' := 295) hE dX11_next_294 rfl rfl rfl ?_
                          refine dk_aload_n (pc' := 296) hE dX11_next_295 rfl rfl rfl ?_
                          refine gf_11_7 (pc' := 299) hE fl_X11_212 dX11_next_296 is_141 rfl (fun v283 hv283 htv283 hbv283 => ?_)
                          have hq283 : v261 = v283 := (show v283 = v261 by rw [hv283, hv269]).symm
                          subst hq283
                          clear htv283 hbv283
                          refine dk_cV (pc' := 302) (as := [(0, v261)]) hE lk_X11_218 (ct_X11_sign l G hGd v261) dX11_next_299 rfl is_141 rfl (by decide) (Nat.le_of_ble_eq_true rfl) ⟨rfl, (by omega)⟩ rfl (fun r285 σ284 hr285 hor285 => ?_)
                          obtain ⟨v286, rfl, hfσ284, hpr285⟩ := hr285
                          have hsσ284 : σ259c = σ284 := (funext (fun k => funext (fun j => hfσ284 k j not_false))).symm
                          subst hsσ284
                          obtain ⟨v287, hv287⟩ : ∃ z : Int, z = v282 + v286 := ⟨_, rfl⟩
                          refine dk_iadd (pc' := 303) hE dX11_next_302 hv287.symm (by omega) rfl ?_
                          refine dk_bipush (pc' := 305) hE dX11_next_303 (by decide) rfl ?_
                          obtain ⟨v288, hv288⟩ : ∃ z : Int, z = v287 - 48 := ⟨_, rfl⟩
                          refine dk_isub (pc' := 306) hE dX11_next_305 hv288.symm (by omega) rfl ?_
                          refine pf_11_9 (pc' := 309) hE fl_X11_240 dX11_next_306 is_141 (by omega) rfl (fun σ289 eσ289 => ?_)
                          refine dk_aload_n (pc' := 310) hE dX11_next_309 rfl rfl rfl ?_
                          refine dk_dup (pc' := 311) hE dX11_next_310 (show (4 : Nat) ≠ 3 by decide) rfl ?_
                          refine gf_11_7 (pc' := 314) hE fl_X11_212 dX11_next_311 is_141 rfl (fun v290 hv290 htv290 hbv290 => ?_)
                          have hq290 : v261 = v290 := (show v290 = v261 by rw [hv290, eσ289, dk_up_n (show ¬ (141 = 141 ∧ 7 = 9) by omega), hv283]).symm
                          subst hq290
                          clear htv290 hbv290
                          refine dk_iconst (pc' := 315) hE dX11_next_314 (by decide) rfl ?_
                          obtain ⟨v291, hv291⟩ : ∃ z : Int, z = v261 + 1 := ⟨_, rfl⟩
                          refine dk_iadd (pc' := 316) hE dX11_next_315 hv291.symm (by omega) rfl ?_
                          refine pf_11_7 (pc' := 319) hE fl_X11_212 dX11_next_316 is_141 (by omega) rfl (fun σ292 eσ292 => ?_)
                          refine dk_goto (tgt := 259) hE dX11_next_319 (by decide) ?_
                          have hz292_141_6 := (show σ292 141 6 = _ by rw [eσ292, dk_up_n (show ¬ (141 = 141 ∧ 6 = 7) by omega), eσ289, dk_up_n (show ¬ (141 = 141 ∧ 6 = 9) by omega)])
                          have hz293_141_7 : σ292 141 7 = v291 := by rw [eσ292, dk_up_s]
                          have hz294_141_3 := (show σ292 141 3 = _ by rw [eσ292, dk_up_n (show ¬ (141 = 141 ∧ 3 = 7) by omega), eσ289, dk_up_n (show ¬ (141 = 141 ∧ 3 = 9) by omega)])
                          have hz295_141_4 := (show σ292 141 4 = _ by rw [eσ292, dk_up_n (show ¬ (141 = 141 ∧ 4 = 7) by omega), eσ289, dk_up_n (show ¬ (141 = 141 ∧ 4 = 9) by omega)])
                          have hz296_141_9 : σ292 141 9 = v288 := by rw [eσ292, dk_up_n (show ¬ (141 = 141 ∧ 9 = 7) by omega), eσ289, dk_up_s]
                          exact ih259 σ292 (by omega) (fun k_ j_ h_ => by rw [eσ292, dk_up_n (show ¬ (k_ = 141 ∧ j_ = 7) from fun q_ => h_ (Or.inl (q_))), eσ289, dk_up_n (show ¬ (k_ = 141 ∧ j_ = 9) from fun q_ => h_ (Or.inr (q_))), hF259 k_ j_ (fun w_ => h_ (w_.elim (fun x0_ => Or.inl (x0_)) (fun y0_ => Or.inr (y0_))))]) (by omega) (by omega) (by omega)
                      · skip
                        refine dk_if_eq (tgt := 322) (pc' := 273) hE dX11_next_270 (by decide) rfl (fun hc298 => ?_) (fun hc298 => absurd hc298 (by decide))
                        refine dk_aload_n (pc' := 323) hE dX11_next_322 rfl rfl rfl ?_
                        refine dk_aload_n (pc' := 324) hE dX11_next_323 rfl rfl rfl ?_
                        refine gf_11_7 (pc' := 327) hE fl_X11_212 dX11_next_324 is_141 rfl (fun v299 hv299 htv299 hbv299 => ?_)
                        have hq299 : v261 = v299 := (show v299 = v261 by rw [hv299, hv261]).symm
                        subst hq299
                        clear htv299 hbv299
                        refine dk_aload_n (pc' := 328) hE dX11_next_327 rfl rfl rfl ?_
                        refine gf_11_6 (pc' := 331) hE fl_X11_215 dX11_next_328 is_141 rfl (fun v300 hv300 htv300 hbv300 => ?_)
                        have hq300 : v3 = v300 := (show v300 = v3 by rw [hv300, hF259 141 6 (by omega), eσ260, dk_up_n (show ¬ (141 = 141 ∧ 6 = 7) by omega), eσ257, dk_up_n (show ¬ (141 = 141 ∧ 6 = 9) by omega), hv152]).symm
                        subst hq300
                        clear htv300 hbv300
                        obtain ⟨v301, hv301⟩ : ∃ z : Int, z = v261 - v3 := ⟨_, rfl⟩
                        refine dk_isub (pc' := 332) hE dX11_next_331 hv301.symm (by omega) rfl ?_
                        refine dk_iconst (pc' := 333) hE dX11_next_332 (by decide) rfl ?_
                        refine dk_icmp_gt (tgt := 350) (pc' := 336) hE dX11_next_333 (by decide) rfl (fun hc302 => ?_) (fun hc302 => ?_)
                        · skip
                          refine dk_iconst (pc' := 351) hE dX11_next_350 (by decide) rfl ?_
                          refine dk_goto (tgt := 355) hE dX11_next_351 (by decide) ?_
                          refine pf_11_8 (pc' := 358) hE fl_X11_222 dX11_next_355 is_141 (by omega) rfl (fun σ303 eσ303 => ?_)
                          refine dk_goto (tgt := 377) hE dX11_next_358 (by decide) ?_
                          have hz304 : σ303 141 3 = v4 := by rw [eσ303, dk_up_n (show ¬ (141 = 141 ∧ 3 = 8) by omega), hF259 141 3 (by omega), eσ260, dk_up_n (show ¬ (141 = 141 ∧ 3 = 7) by omega), eσ257, dk_up_n (show ¬ (141 = 141 ∧ 3 = 9) by omega), eσ141, dk_up_n (show ¬ (141 = 141 ∧ 3 = 7) by omega), eσ139, dk_up_n (show ¬ (141 = 141 ∧ 3 = 9) by omega), hv14]
                          have hz305 : σ303 141 4 = σ 141 4 := by rw [eσ303, dk_up_n (show ¬ (141 = 141 ∧ 4 = 8) by omega), hF259 141 4 (by omega), eσ260, dk_up_n (show ¬ (141 = 141 ∧ 4 = 7) by omega), eσ257, dk_up_n (show ¬ (141 = 141 ∧ 4 = 9) by omega), eσ141, dk_up_n (show ¬ (141 = 141 ∧ 4 = 7) by omega), eσ139, dk_up_n (show ¬ (141 = 141 ∧ 4 = 9) by omega), eσ12, dk_up_n (show ¬ (141 = 141 ∧ 4 = 7) by omega), hF8 141 4 (by omega), eσ2, dk_up_n (show ¬ (141 = 141 ∧ 4 = 6) by omega)]
                          have hz306 : σ303 141 6 = v3 := by rw [eσ303, dk_up_n (show ¬ (141 = 141 ∧ 6 = 8) by omega), hv300]
                          have hz307 : σ303 141 7 = v261 := by rw [eσ303, dk_up_n (show ¬ (141 = 141 ∧ 7 = 8) by omega), hv299]
                          have hz308 : σ303 141 8 = 1 := by rw [eσ303, dk_up_s]
                          exact dk_vret (st := []) hE hR dX11_next_377 ⟨rfl, (fun k_ j_ h_ => by rw [eσ303, dk_up_n (show ¬ (k_ = 141 ∧ j_ = 8) from fun q_ => h_ (Or.inr (Or.inr (Or.inl (q_))))), hF259 k_ j_ (fun w_ => h_ (w_.elim (fun x0_ => Or.inr (Or.inl (x0_))) (fun y0_ => Or.inr (Or.inr (Or.inr (Or.inl (y0_))))))), eσ260, dk_up_n (show ¬ (k_ = 141 ∧ j_ = 7) from fun q_ => h_ (Or.inr (Or.inl (q_)))), eσ257, dk_up_n (show ¬ (k_ = 141 ∧ j_ = 9) from fun q_ => h_ (Or.inr (Or.inr (Or.inr (Or.inl (q_)))))), eσ141, dk_up_n (show ¬ (k_ = 141 ∧ j_ = 7) from fun q_ => h_ (Or.inr (Or.inl (q_)))), eσ139, dk_up_n (show ¬ (k_ = 141 ∧ j_ = 9) from fun q_ => h_ (Or.inr (Or.inr (Or.inr (Or.inl (q_)))))), eσ12, dk_up_n (show ¬ (k_ = 141 ∧ j_ = 7) from fun q_ => h_ (Or.inr (Or.inl (q_)))), hF8 k_ j_ (fun w_ => h_ (Or.inl (w_))), eσ2, dk_up_n (show ¬ (k_ = 141 ∧ j_ = 6) from fun q_ => h_ (Or.inl (q_)))]), NY_of (by omega) (by omega) (by omega) (by omega) (by omega)⟩
                        · skip
                          refine dk_aload_n (pc' := 337) hE dX11_next_336 rfl rfl rfl ?_
                          refine dk_aload_n (pc' := 338) hE dX11_next_337 rfl rfl rfl ?_
                          refine gf_11_7 (pc' := 341) hE fl_X11_212 dX11_next_338 is_141 rfl (fun v309 hv309 htv309 hbv309 => ?_)
                          have hq309 : v261 = v309 := (show v309 = v261 by rw [hv309, hv299]).symm
                          subst hq309
                          clear htv309 hbv309
                          refine dk_cV (pc' := 344) (as := [(0, v261)]) hE lk_X11_218 (ct_X11_sign l G hGd v261) dX11_next_341 rfl is_141 rfl (by decide) (Nat.le_of_ble_eq_true rfl) ⟨rfl, (by omega)⟩ rfl (fun r311 σ310 hr311 hor311 => ?_)
                          obtain ⟨v312, rfl, hfσ310, hpr311⟩ := hr311
                          have hsσ310 : σ259c = σ310 := (funext (fun k => funext (fun j => hfσ310 k j not_false))).symm
                          subst hsσ310
                          refine dk_cS (pc' := 347) (as := [(0, v312)]) hE lk_X11_225 (ct_X11_isLetter l G hGd v312) dX11_next_344 rfl rfl (by decide) (Nat.le_of_ble_eq_true rfl) rfl rfl (fun r314 σ313 hr314 hor314 => ?_)
                          obtain ⟨v315, rfl, hfσ313, hpr314⟩ := hr314
                          have hsσ313 : σ259c = σ313 := (funext (fun k => funext (fun j => hfσ313 k j not_false))).symm
                          subst hsσ313
                          rcases hpr314 with ⟨rfl, hpr314⟩ | ⟨rfl, hpr314⟩
                          · skip
                            refine dk_if_eq (tgt := 354) (pc' := 350) hE dX11_next_347 (by decide) rfl (fun hc316 => absurd hc316 (by decide)) (fun hc316 => ?_)
                            refine dk_iconst (pc' := 351) hE dX11_next_350 (by decide) rfl ?_
                            refine dk_goto (tgt := 355) hE dX11_next_351 (by decide) ?_
                            refine pf_11_8 (pc' := 358) hE fl_X11_222 dX11_next_355 is_141 (by omega) rfl (fun σ317 eσ317 => ?_)
                            refine dk_goto (tgt := 377) hE dX11_next_358 (by decide) ?_
                            have hz318 : σ317 141 3 = v4 := by rw [eσ317, dk_up_n (show ¬ (141 = 141 ∧ 3 = 8) by omega), hF259 141 3 (by omega), eσ260, dk_up_n (show ¬ (141 = 141 ∧ 3 = 7) by omega), eσ257, dk_up_n (show ¬ (141 = 141 ∧ 3 = 9) by omega), eσ141, dk_up_n (show ¬ (141 = 141 ∧ 3 = 7) by omega), eσ139, dk_up_n (show ¬ (141 = 141 ∧ 3 = 9) by omega), hv14]
                            have hz319 : σ317 141 4 = σ 141 4 := by rw [eσ317, dk_up_n (show ¬ (141 = 141 ∧ 4 = 8) by omega), hF259 141 4 (by omega), eσ260, dk_up_n (show ¬ (141 = 141 ∧ 4 = 7) by omega), eσ257, dk_up_n (show ¬ (141 = 141 ∧ 4 = 9) by omega), eσ141, dk_up_n (show ¬ (141 = 141 ∧ 4 = 7) by omega), eσ139, dk_up_n (show ¬ (141 = 141 ∧ 4 = 9) by omega), eσ12, dk_up_n (show ¬ (141 = 141 ∧ 4 = 7) by omega), hF8 141 4 (by omega), eσ2, dk_up_n (show ¬ (141 = 141 ∧ 4 = 6) by omega)]
                            have hz320 : σ317 141 6 = v3 := by rw [eσ317, dk_up_n (show ¬ (141 = 141 ∧ 6 = 8) by omega), hv300]
                            have hz321 : σ317 141 7 = v261 := by rw [eσ317, dk_up_n (show ¬ (141 = 141 ∧ 7 = 8) by omega), hv309]
                            have hz322 : σ317 141 8 = 1 := by rw [eσ317, dk_up_s]
                            exact dk_vret (st := []) hE hR dX11_next_377 ⟨rfl, (fun k_ j_ h_ => by rw [eσ317, dk_up_n (show ¬ (k_ = 141 ∧ j_ = 8) from fun q_ => h_ (Or.inr (Or.inr (Or.inl (q_))))), hF259 k_ j_ (fun w_ => h_ (w_.elim (fun x0_ => Or.inr (Or.inl (x0_))) (fun y0_ => Or.inr (Or.inr (Or.inr (Or.inl (y0_))))))), eσ260, dk_up_n (show ¬ (k_ = 141 ∧ j_ = 7) from fun q_ => h_ (Or.inr (Or.inl (q_)))), eσ257, dk_up_n (show ¬ (k_ = 141 ∧ j_ = 9) from fun q_ => h_ (Or.inr (Or.inr (Or.inr (Or.inl (q_)))))), eσ141, dk_up_n (show ¬ (k_ = 141 ∧ j_ = 7) from fun q_ => h_ (Or.inr (Or.inl (q_)))), eσ139, dk_up_n (show ¬ (k_ = 141 ∧ j_ = 9) from fun q_ => h_ (Or.inr (Or.inr (Or.inr (Or.inl (q_)))))), eσ12, dk_up_n (show ¬ (k_ = 141 ∧ j_ = 7) from fun q_ => h_ (Or.inr (Or.inl (q_)))), hF8 k_ j_ (fun w_ => h_ (Or.inl (w_))), eσ2, dk_up_n (show ¬ (k_ = 141 ∧ j_ = 6) from fun q_ => h_ (Or.inl (q_)))]), NY_of (by omega) (by omega) (by omega) (by omega) (by omega)⟩
                          · skip
                            refine dk_if_eq (tgt := 354) (pc' := 350) hE dX11_next_347 (by decide) rfl (fun hc323 => ?_) (fun hc323 => absurd hc323 (by decide))
                            refine dk_iconst (pc' := 355) hE dX11_next_354 (by decide) rfl ?_
                            refine pf_11_8 (pc' := 358) hE fl_X11_222 dX11_next_355 is_141 (by omega) rfl (fun σ324 eσ324 => ?_)
                            refine dk_goto (tgt := 377) hE dX11_next_358 (by decide) ?_
                            have hz325 : σ324 141 3 = v4 := by rw [eσ324, dk_up_n (show ¬ (141 = 141 ∧ 3 = 8) by omega), hF259 141 3 (by omega), eσ260, dk_up_n (show ¬ (141 = 141 ∧ 3 = 7) by omega), eσ257, dk_up_n (show ¬ (141 = 141 ∧ 3 = 9) by omega), eσ141, dk_up_n (show ¬ (141 = 141 ∧ 3 = 7) by omega), eσ139, dk_up_n (show ¬ (141 = 141 ∧ 3 = 9) by omega), hv14]
                            have hz326 : σ324 141 4 = σ 141 4 := by rw [eσ324, dk_up_n (show ¬ (141 = 141 ∧ 4 = 8) by omega), hF259 141 4 (by omega), eσ260, dk_up_n (show ¬ (141 = 141 ∧ 4 = 7) by omega), eσ257, dk_up_n (show ¬ (141 = 141 ∧ 4 = 9) by omega), eσ141, dk_up_n (show ¬ (141 = 141 ∧ 4 = 7) by omega), eσ139, dk_up_n (show ¬ (141 = 141 ∧ 4 = 9) by omega), eσ12, dk_up_n (show ¬ (141 = 141 ∧ 4 = 7) by omega), hF8 141 4 (by omega), eσ2, dk_up_n (show ¬ (141 = 141 ∧ 4 = 6) by omega)]
                            have hz327 : σ324 141 6 = v3 := by rw [eσ324, dk_up_n (show ¬ (141 = 141 ∧ 6 = 8) by omega), hv300]
                            have hz328 : σ324 141 7 = v261 := by rw [eσ324, dk_up_n (show ¬ (141 = 141 ∧ 7 = 8) by omega), hv309]
                            have hz329 : σ324 141 8 = 4 := by rw [eσ324, dk_up_s]
                            exact dk_vret (st := []) hE hR dX11_next_377 ⟨rfl, (fun k_ j_ h_ => by rw [eσ324, dk_up_n (show ¬ (k_ = 141 ∧ j_ = 8) from fun q_ => h_ (Or.inr (Or.inr (Or.inl (q_))))), hF259 k_ j_ (fun w_ => h_ (w_.elim (fun x0_ => Or.inr (Or.inl (x0_))) (fun y0_ => Or.inr (Or.inr (Or.inr (Or.inl (y0_))))))), eσ260, dk_up_n (show ¬ (k_ = 141 ∧ j_ = 7) from fun q_ => h_ (Or.inr (Or.inl (q_)))), eσ257, dk_up_n (show ¬ (k_ = 141 ∧ j_ = 9) from fun q_ => h_ (Or.inr (Or.inr (Or.inr (Or.inl (q_)))))), eσ141, dk_up_n (show ¬ (k_ = 141 ∧ j_ = 7) from fun q_ => h_ (Or.inr (Or.inl (q_)))), eσ139, dk_up_n (show ¬ (k_ = 141 ∧ j_ = 9) from fun q_ => h_ (Or.inr (Or.inr (Or.inr (Or.inl (q_)))))), eσ12, dk_up_n (show ¬ (k_ = 141 ∧ j_ = 7) from fun q_ => h_ (Or.inr (Or.inl (q_)))), hF8 k_ j_ (fun w_ => h_ (Or.inl (w_))), eσ2, dk_up_n (show ¬ (k_ = 141 ∧ j_ = 6) from fun q_ => h_ (Or.inl (q_)))]), NY_of (by omega) (by omega) (by omega) (by omega) (by omega)⟩
                  have hz330 : σ260 141 6 = v3 := by rw [eσ260, dk_up_n (show ¬ (141 = 141 ∧ 6 = 7) by omega), eσ257, dk_up_n (show ¬ (141 = 141 ∧ 6 = 9) by omega), hv152]
                  have hz331 : σ260 141 7 = v259 := by rw [eσ260, dk_up_s]
                  have hz332 : σ260 141 7 = v259 := by rw [eσ260, dk_up_s]
                  have hz333 : σ260 141 6 = v3 := by rw [eσ260, dk_up_n (show ¬ (141 = 141 ∧ 6 = 7) by omega), eσ257, dk_up_n (show ¬ (141 = 141 ∧ 6 = 9) by omega), hv152]
                  have hz334 : σ260 141 3 = v4 := by rw [eσ260, dk_up_n (show ¬ (141 = 141 ∧ 3 = 7) by omega), eσ257, dk_up_n (show ¬ (141 = 141 ∧ 3 = 9) by omega), eσ141, dk_up_n (show ¬ (141 = 141 ∧ 3 = 7) by omega), eσ139, dk_up_n (show ¬ (141 = 141 ∧ 3 = 9) by omega), hv14]
                  have hz335 : σ260 141 4 = σ 141 4 := by rw [eσ260, dk_up_n (show ¬ (141 = 141 ∧ 4 = 7) by omega), eσ257, dk_up_n (show ¬ (141 = 141 ∧ 4 = 9) by omega), eσ141, dk_up_n (show ¬ (141 = 141 ∧ 4 = 7) by omega), eσ139, dk_up_n (show ¬ (141 = 141 ∧ 4 = 9) by omega), eσ12, dk_up_n (show ¬ (141 = 141 ∧ 4 = 7) by omega), hF8 141 4 (by omega), eσ2, dk_up_n (show ¬ (141 = 141 ∧ 4 = 6) by omega)]
                  have hz336 : σ260 141 7 = v259 := by rw [eσ260, dk_up_s]
                  have hz337 : σ260 141 6 = v3 := by rw [eσ260, dk_up_n (show ¬ (141 = 141 ∧ 6 = 7) by omega), eσ257, dk_up_n (show ¬ (141 = 141 ∧ 6 = 9) by omega), hv152]
                  have hz338 : σ260 141 9 = v256 := by rw [eσ260, dk_up_n (show ¬ (141 = 141 ∧ 9 = 7) by omega), eσ257, dk_up_s]
                  have hz339 : σ260 141 7 = v259 := by rw [eσ260, dk_up_s]
                  have hz340 : σ260 141 6 = v3 := by rw [eσ260, dk_up_n (show ¬ (141 = 141 ∧ 6 = 7) by omega), eσ257, dk_up_n (show ¬ (141 = 141 ∧ 6 = 9) by omega), hv152]
                  have hz341 : σ260 141 9 = v256 := by rw [eσ260, dk_up_n (show ¬ (141 = 141 ∧ 9 = 7) by omega), eσ257, dk_up_s]
                  have hz342 : σ260 141 7 = v259 := by rw [eσ260, dk_up_s]
                  have hz343 : σ260 141 6 = v3 := by rw [eσ260, dk_up_n (show ¬ (141 = 141 ∧ 6 = 7) by omega), eσ257, dk_up_n (show ¬ (141 = 141 ∧ 6 = 9) by omega), hv152]
                  have hz344 : σ260 141 9 = v256 := by rw [eσ260, dk_up_n (show ¬ (141 = 141 ∧ 9 = 7) by omega), eσ257, dk_up_s]
                  have hz345 : σ260 141 7 = v259 := by rw [eσ260, dk_up_s]
                  have hz346 : σ260 141 6 = v3 := by rw [eσ260, dk_up_n (show ¬ (141 = 141 ∧ 6 = 7) by omega), eσ257, dk_up_n (show ¬ (141 = 141 ∧ 6 = 9) by omega), hv152]
                  have hz347 : σ260 141 7 = v259 := by rw [eσ260, dk_up_s]
                  have hz348_141_7 : σ260 141 7 = v259 := by rw [eσ260, dk_up_s]
                  have hz351_141_9 : σ260 141 9 = v256 := by rw [eσ260, dk_up_n (show ¬ (141 = 141 ∧ 9 = 7) by omega), eσ257, dk_up_s]
                  exact lp259 _ σ260 (Nat.lt_succ_self _) (fun k_ j_ h_ => rfl) (by omega) (by omega) (by omega)
              · skip
                refine dk_if_eq (tgt := 322) (pc' := 273) hE dX11_next_270 (by decide) rfl (fun hc353 => ?_) (fun hc353 => absurd hc353 (by decide))
                refine dk_aload_n (pc' := 323) hE dX11_next_322 rfl rfl rfl ?_
                refine dk_aload_n (pc' := 324) hE dX11_next_323 rfl rfl rfl ?_
                refine gf_11_7 (pc' := 327) hE fl_X11_212 dX11_next_324 is_141 rfl (fun v354 hv354 htv354 hbv354 => ?_)
                have hq354 : v3 = v354 := (show v354 = v3 by rw [hv354, hv142]).symm
                subst hq354
                clear htv354 hbv354
                refine dk_aload_n (pc' := 328) hE dX11_next_327 rfl rfl rfl ?_
                refine gf_11_6 (pc' := 331) hE fl_X11_215 dX11_next_328 is_141 rfl (fun v355 hv355 htv355 hbv355 => ?_)
                have hq355 : v3 = v355 := (show v355 = v3 by rw [hv355, eσ141, dk_up_n (show ¬ (141 = 141 ∧ 6 = 7) by omega), hv140]).symm
                subst hq355
                clear htv355 hbv355
                obtain ⟨v356, hv356⟩ : ∃ z : Int, z = v3 - v3 := ⟨_, rfl⟩
                refine dk_isub (pc' := 332) hE dX11_next_331 hv356.symm (by omega) rfl ?_
                refine dk_iconst (pc' := 333) hE dX11_next_332 (by decide) rfl ?_
                refine dk_icmp_gt (tgt := 350) (pc' := 336) hE dX11_next_333 (by decide) rfl (fun hc357 => ?_) (fun hc357 => ?_)
                · skip
                  refine dk_iconst (pc' := 351) hE dX11_next_350 (by decide) rfl ?_
                  refine dk_goto (tgt := 355) hE dX11_next_351 (by decide) ?_
                  refine pf_11_8 (pc' := 358) hE fl_X11_222 dX11_next_355 is_141 (by omega) rfl (fun σ358 eσ358 => ?_)
                  refine dk_goto (tgt := 377) hE dX11_next_358 (by decide) ?_
                  have hz359 : σ358 141 3 = v4 := by rw [eσ358, dk_up_n (show ¬ (141 = 141 ∧ 3 = 8) by omega), eσ141, dk_up_n (show ¬ (141 = 141 ∧ 3 = 7) by omega), eσ139, dk_up_n (show ¬ (141 = 141 ∧ 3 = 9) by omega), hv14]
                  have hz360 : σ358 141 4 = σ 141 4 := by rw [eσ358, dk_up_n (show ¬ (141 = 141 ∧ 4 = 8) by omega), eσ141, dk_up_n (show ¬ (141 = 141 ∧ 4 = 7) by omega), eσ139, dk_up_n (show ¬ (141 = 141 ∧ 4 = 9) by omega), eσ12, dk_up_n (show ¬ (141 = 141 ∧ 4 = 7) by omega), hF8 141 4 (by omega), eσ2, dk_up_n (show ¬ (141 = 141 ∧ 4 = 6) by omega)]
                  have hz361 : σ358 141 6 = v3 := by rw [eσ358, dk_up_n (show ¬ (141 = 141 ∧ 6 = 8) by omega), hv355]
                  have hz362 : σ358 141 7 = v3 := by rw [eσ358, dk_up_n (show ¬ (141 = 141 ∧ 7 = 8) by omega), hv354]
                  have hz363 : σ358 141 8 = 1 := by rw [eσ358, dk_up_s]
                  exact dk_vret (st := []) hE hR dX11_next_377 ⟨rfl, (fun k_ j_ h_ => by rw [eσ358, dk_up_n (show ¬ (k_ = 141 ∧ j_ = 8) from fun q_ => h_ (Or.inr (Or.inr (Or.inl (q_))))), eσ141, dk_up_n (show ¬ (k_ = 141 ∧ j_ = 7) from fun q_ => h_ (Or.inr (Or.inl (q_)))), eσ139, dk_up_n (show ¬ (k_ = 141 ∧ j_ = 9) from fun q_ => h_ (Or.inr (Or.inr (Or.inr (Or.inl (q_)))))), eσ12, dk_up_n (show ¬ (k_ = 141 ∧ j_ = 7) from fun q_ => h_ (Or.inr (Or.inl (q_)))), hF8 k_ j_ (fun w_ => h_ (Or.inl (w_))), eσ2, dk_up_n (show ¬ (k_ = 141 ∧ j_ = 6) from fun q_ => h_ (Or.inl (q_)))]), NY_of (by omega) (by omega) (by omega) (by omega) (by omega)⟩
                · skip
                  refine dk_aload_n (pc' := 337) hE dX11_next_336 rfl rfl rfl ?_
                  refine dk_aload_n (pc' := 338) hE dX11_next_337 rfl rfl rfl ?_
                  refine gf_11_7 (pc' := 341) hE fl_X11_212 dX11_next_338 is_141 rfl (fun v364 hv364 htv364 hbv364 => ?_)
                  have hq364 : v3 = v364 := (show v364 = v3 by rw [hv364, hv354]).symm
                  subst hq364
                  clear htv364 hbv364
                  refine dk_cV (pc' := 344) (as := [(0, v3)]) hE lk_X11_218 (ct_X11_sign l G hGd v3) dX11_next_341 rfl is_141 rfl (by decide) (Nat.le_of_ble_eq_true rfl) ⟨rfl, (by omega)⟩ rfl (fun r366 σ365 hr366 hor366 => ?_)
                  obtain ⟨v367, rfl, hfσ365, hpr366⟩ := hr366
                  have hsσ365 : σ141 = σ365 := (funext (fun k => funext (fun j => hfσ365 k j not_false))).symm
                  subst hsσ365
                  refine dk_cS (pc' := 347) (as := [(0, v367)]) hE lk_X11_225 (ct_X11_isLetter l G hGd v367) dX11_next_344 rfl rfl (by decide) (Nat.le_of_ble_eq_true rfl) rfl rfl (fun r369 σ368 hr369 hor369 => ?_)
                  obtain ⟨v370, rfl, hfσ368, hpr369⟩ := hr369
                  have hsσ368 : σ141 = σ368 := (funext (fun k => funext (fun j => hfσ368 k j not_false))).symm
                  subst hsσ368
                  rcases hpr369 with ⟨rfl, hpr369⟩ | ⟨rfl, hpr369⟩
                  · skip
                    refine dk_if_eq (tgt := 354) (pc' := 350) hE dX11_next_347 (by decide) rfl (fun hc371 => absurd hc371 (by decide)) (fun hc371 => ?_)
                    refine dk_iconst (pc' := 351) hE dX11_next_350 (by decide) rfl ?_
                    refine dk_goto (tgt := 355) hE dX11_next_351 (by decide) ?_
                    refine pf_11_8 (pc' := 358) hE fl_X11_222 dX11_next_355 is_141 (by omega) rfl (fun σ372 eσ372 => ?_)
                    refine dk_goto (tgt := 377) hE dX11_next_358 (by decide) ?_
                    have hz373 : σ372 141 3 = v4 := by rw [eσ372, dk_up_n (show ¬ (141 = 141 ∧ 3 = 8) by omega), eσ141, dk_up_n (show ¬ (141 = 141 ∧ 3 = 7) by omega), eσ139, dk_up_n (show ¬ (141 = 141 ∧ 3 = 9) by omega), hv14]
                    have hz374 : σ372 141 4 = σ 141 4 := by rw [eσ372, dk_up_n (show ¬ (141 = 141 ∧ 4 = 8) by omega), eσ141, dk_up_n (show ¬ (141 = 141 ∧ 4 = 7) by omega), eσ139, dk_up_n (show ¬ (141 = 141 ∧ 4 = 9) by omega), eσ12, dk_up_n (show ¬ (141 = 141 ∧ 4 = 7) by omega), hF8 141 4 (by omega), eσ2, dk_up_n (show ¬ (141 = 141 ∧ 4 = 6) by omega)]
                    have hz375 : σ372 141 6 = v3 := by rw [eσ372, dk_up_n (show ¬ (141 = 141 ∧ 6 = 8) by omega), hv355]
                    have hz376 : σ372 141 7 = v3 := by rw [eσ372, dk_up_n (show ¬ (141 = 141 ∧ 7 = 8) by omega), hv364]
                    have hz377 : σ372 141 8 = 1 := by rw [eσ372, dk_up_s]
                    exact dk_vret (st := []) hE hR dX11_next_377 ⟨rfl, (fun k_ j_ h_ => by rw [eσ372, dk_up_n (show ¬ (k_ = 141 ∧ j_ = 8) from fun q_ => h_ (Or.inr (Or.inr (Or.inl (q_))))), eσ141, dk_up_n (show ¬ (k_ = 141 ∧ j_ = 7) from fun q_ => h_ (Or.inr (Or.inl (q_)))), eσ139, dk_up_n (show ¬ (k_ = 141 ∧ j_ = 9) from fun q_ => h_ (Or.inr (Or.inr (Or.inr (Or.inl (q_)))))), eσ12, dk_up_n (show ¬ (k_ = 141 ∧ j_ = 7) from fun q_ => h_ (Or.inr (Or.inl (q_)))), hF8 k_ j_ (fun w_ => h_ (Or.inl (w_))), eσ2, dk_up_n (show ¬ (k_ = 141 ∧ j_ = 6) from fun q_ => h_ (Or.inl (q_)))]), NY_of (by omega) (by omega) (by omega) (by omega) (by omega)⟩
                  · skip
                    refine dk_if_eq (tgt := 354) (pc' := 350) hE dX11_next_347 (by decide) rfl (fun hc378 => ?_) (fun hc378 => absurd hc378 (by decide))
                    refine dk_iconst (pc' := 355) hE dX11_next_354 (by decide) rfl ?_
                    refine pf_11_8 (pc' := 358) hE fl_X11_222 dX11_next_355 is_141 (by omega) rfl (fun σ379 eσ379 => ?_)
                    refine dk_goto (tgt := 377) hE dX11_next_358 (by decide) ?_
                    have hz380 : σ379 141 3 = v4 := by rw [eσ379, dk_up_n (show ¬ (141 = 141 ∧ 3 = 8) by omega), eσ141, dk_up_n (show ¬ (141 = 141 ∧ 3 = 7) by omega), eσ139, dk_up_n (show ¬ (141 = 141 ∧ 3 = 9) by omega), hv14]
                    have hz381 : σ379 141 4 = σ 141 4 := by rw [eσ379, dk_up_n (show ¬ (141 = 141 ∧ 4 = 8) by omega), eσ141, dk_up_n (show ¬ (141 = 141 ∧ 4 = 7) by omega), eσ139, dk_up_n (show ¬ (141 = 141 ∧ 4 = 9) by omega), eσ12, dk_up_n (show ¬ (141 = 141 ∧ 4 = 7) by omega), hF8 141 4 (by omega), eσ2, dk_up_n (show ¬ (141 = 141 ∧ 4 = 6) by omega)]
                    have hz382 : σ379 141 6 = v3 := by rw [eσ379, dk_up_n (show ¬ (141 = 141 ∧ 6 = 8) by omega), hv355]
                    have hz383 : σ379 141 7 = v3 := by rw [eσ379, dk_up_n (show ¬ (141 = 141 ∧ 7 = 8) by omega), hv364]
                    have hz384 : σ379 141 8 = 4 := by rw [eσ379, dk_up_s]
                    exact dk_vret (st := []) hE hR dX11_next_377 ⟨rfl, (fun k_ j_ h_ => by rw [eσ379, dk_up_n (show ¬ (k_ = 141 ∧ j_ = 8) from fun q_ => h_ (Or.inr (Or.inr (Or.inl (q_))))), eσ141, dk_up_n (show ¬ (k_ = 141 ∧ j_ = 7) from fun q_ => h_ (Or.inr (Or.inl (q_)))), eσ139, dk_up_n (show ¬ (k_ = 141 ∧ j_ = 9) from fun q_ => h_ (Or.inr (Or.inr (Or.inr (Or.inl (q_)))))), eσ12, dk_up_n (show ¬ (k_ = 141 ∧ j_ = 7) from fun q_ => h_ (Or.inr (Or.inl (q_)))), hF8 k_ j_ (fun w_ => h_ (Or.inl (w_))), eσ2, dk_up_n (show ¬ (k_ = 141 ∧ j_ = 6) from fun q_ => h_ (Or.inl (q_)))]), NY_of (by omega) (by omega) (by omega) (by omega) (by omega)⟩
            · skip
              refine dk_if_eq (tgt := 361) (pc' := 246) hE dX11_next_243 (by decide) rfl (fun hc385 => ?_) (fun hc385 => absurd hc385 (by decide))
              refine dk_aload_n (pc' := 362) hE dX11_next_361 rfl rfl rfl ?_
              refine dk_iload_n (pc' := 363) hE dX11_next_362 rfl rfl rfl ?_
              refine dk_cS (pc' := 366) (as := [(0, v9)]) hE lk_X11_243 (ct_X11_isSign l G hGd v9) dX11_next_363 rfl rfl (by decide) (Nat.le_of_ble_eq_true rfl) rfl rfl (fun r387 σ386 hr387 hor387 => ?_)
              obtain ⟨v388, rfl, hfσ386, hpr387⟩ := hr387
              have hsσ386 : σ12 = σ386 := (funext (fun k => funext (fun j => hfσ386 k j not_false))).symm
              subst hsσ386
              refine dk_if_eq (tgt := 373) (pc' := 369) hE dX11_next_366 (by decide) rfl (fun hc389 => ?_) (fun hc389 => ?_)
              · skip
                refine dk_iconst (pc' := 374) hE dX11_next_373 (by decide) rfl ?_
                refine pf_11_8 (pc' := 377) hE fl_X11_222 dX11_next_374 is_141 (by omega) rfl (fun σ390 eσ390 => ?_)
                have hz391 : σ390 141 3 = v4 := by rw [eσ390, dk_up_n (show ¬ (141 = 141 ∧ 3 = 8) by omega), hv14]
                have hz392 : σ390 141 4 = σ 141 4 := by rw [eσ390, dk_up_n (show ¬ (141 = 141 ∧ 4 = 8) by omega), eσ12, dk_up_n (show ¬ (141 = 141 ∧ 4 = 7) by omega), hF8 141 4 (by omega), eσ2, dk_up_n (show ¬ (141 = 141 ∧ 4 = 6) by omega)]
                have hz393 : σ390 141 6 = v3 := by rw [eσ390, dk_up_n (show ¬ (141 = 141 ∧ 6 = 8) by omega), hv13]
                have hz394 : σ390 141 7 = v11 := by rw [eσ390, dk_up_n (show ¬ (141 = 141 ∧ 7 = 8) by omega), eσ12, dk_up_s]
                have hz395 : σ390 141 8 = 1 := by rw [eσ390, dk_up_s]
                exact dk_vret (st := []) hE hR dX11_next_377 ⟨rfl, (fun k_ j_ h_ => by rw [eσ390, dk_up_n (show ¬ (k_ = 141 ∧ j_ = 8) from fun q_ => h_ (Or.inr (Or.inr (Or.inl (q_))))), eσ12, dk_up_n (show ¬ (k_ = 141 ∧ j_ = 7) from fun q_ => h_ (Or.inr (Or.inl (q_)))), hF8 k_ j_ (fun w_ => h_ (Or.inl (w_))), eσ2, dk_up_n (show ¬ (k_ = 141 ∧ j_ = 6) from fun q_ => h_ (Or.inl (q_)))]), NY_of (by omega) (by omega) (by omega) (by omega) (by omega)⟩
              · skip
                refine dk_iconst (pc' := 370) hE dX11_next_369 (by decide) rfl ?_
                refine dk_goto (tgt := 374) hE dX11_next_370 (by decide) ?_
                refine pf_11_8 (pc' := 377) hE fl_X11_222 dX11_next_374 is_141 (by omega) rfl (fun σ396 eσ396 => ?_)
                have hz397 : σ396 141 3 = v4 := by rw [eσ396, dk_up_n (show ¬ (141 = 141 ∧ 3 = 8) by omega), hv14]
                have hz398 : σ396 141 4 = σ 141 4 := by rw [eσ396, dk_up_n (show ¬ (141 = 141 ∧ 4 = 8) by omega), eσ12, dk_up_n (show ¬ (141 = 141 ∧ 4 = 7) by omega), hF8 141 4 (by omega), eσ2, dk_up_n (show ¬ (141 = 141 ∧ 4 = 6) by omega)]
                have hz399 : σ396 141 6 = v3 := by rw [eσ396, dk_up_n (show ¬ (141 = 141 ∧ 6 = 8) by omega), hv13]
                have hz400 : σ396 141 7 = v11 := by rw [eσ396, dk_up_n (show ¬ (141 = 141 ∧ 7 = 8) by omega), eσ12, dk_up_s]
                have hz401 : σ396 141 8 = 5 := by rw [eσ396, dk_up_s]
                exact dk_vret (st := []) hE hR dX11_next_377 ⟨rfl, (fun k_ j_ h_ => by rw [eσ396, dk_up_n (show ¬ (k_ = 141 ∧ j_ = 8) from fun q_ => h_ (Or.inr (Or.inr (Or.inl (q_))))), eσ12, dk_up_n (show ¬ (k_ = 141 ∧ j_ = 7) from fun q_ => h_ (Or.inr (Or.inl (q_)))), hF8 k_ j_ (fun w_ => h_ (Or.inl (w_))), eσ2, dk_up_n (show ¬ (k_ = 141 ∧ j_ = 6) from fun q_ => h_ (Or.inl (q_)))]), NY_of (by omega) (by omega) (by omega) (by omega) (by omega)⟩
        · skip
          refine dk_aload_n (pc' := 89) hE dX11_next_88 rfl rfl rfl ?_
          refine dk_iconst (pc' := 90) hE dX11_next_89 (by decide) rfl ?_
          refine pf_11_8 (pc' := 93) hE fl_X11_222 dX11_next_90 is_141 (by omega) rfl (fun σ402 eσ402 => ?_)
          refine dk_aload_n (pc' := 94) hE dX11_next_93 rfl rfl rfl ?_
          refine dk_aload_n (pc' := 95) hE dX11_next_94 rfl rfl rfl ?_
          refine gf_11_3 (pc' := 98) hE fl_X11_164 dX11_next_95 is_141 rfl (fun v403 hv403 htv403 hbv403 => ?_)
          have hq403 : v4 = v403 := (show v403 = v4 by rw [hv403, eσ402, dk_up_n (show ¬ (141 = 141 ∧ 3 = 8) by omega), hv14]).symm
          subst hq403
          clear htv403 hbv403
          refine pf_11_6 (pc' := 101) hE fl_X11_215 dX11_next_98 is_141 (by omega) rfl (fun σ404 eσ404 => ?_)
          refine dk_aload_n (pc' := 102) hE dX11_next_101 rfl rfl rfl ?_
          refine dk_aload_n (pc' := 103) hE dX11_next_102 rfl rfl rfl ?_
          refine gf_11_3 (pc' := 106) hE fl_X11_164 dX11_next_103 is_141 rfl (fun v405 hv405 htv405 hbv405 => ?_)
          have hq405 : v4 = v405 := (show v405 = v4 by rw [hv405, eσ404, dk_up_n (show ¬ (141 = 141 ∧ 3 = 6) by omega), hv403]).symm
          subst hq405
          clear htv405 hbv405
          refine pf_11_7 (pc' := 109) hE fl_X11_212 dX11_next_106 is_141 (by omega) rfl (fun σ406 eσ406 => ?_)
          refine dk_goto (tgt := 377) hE dX11_next_109 (by decide) ?_
          have hz407 : σ406 141 3 = v4 := by rw [eσ406, dk_up_n (show ¬ (141 = 141 ∧ 3 = 7) by omega), hv405]
          have hz408 : σ406 141 4 = σ 141 4 := by rw [eσ406, dk_up_n (show ¬ (141 = 141 ∧ 4 = 7) by omega), eσ404, dk_up_n (show ¬ (141 = 141 ∧ 4 = 6) by omega), eσ402, dk_up_n (show ¬ (141 = 141 ∧ 4 = 8) by omega), eσ12, dk_up_n (show ¬ (141 = 141 ∧ 4 = 7) by omega), hF8 141 4 (by omega), eσ2, dk_up_n (show ¬ (141 = 141 ∧ 4 = 6) by omega)]
          have hz409 : σ406 141 6 = v4 := by rw [eσ406, dk_up_n (show ¬ (141 = 141 ∧ 6 = 7) by omega), eσ404, dk_up_s]
          have hz410 : σ406 141 7 = v4 := by rw [eσ406, dk_up_s]
          have hz411 : σ406 141 8 = 0 := by rw [eσ406, dk_up_n (show ¬ (141 = 141 ∧ 8 = 7) by omega), eσ404, dk_up_n (show ¬ (141 = 141 ∧ 8 = 6) by omega), eσ402, dk_up_s]
          exact dk_vret (st := []) hE hR dX11_next_377 ⟨rfl, (fun k_ j_ h_ => by rw [eσ406, dk_up_n (show ¬ (k_ = 141 ∧ j_ = 7) from fun q_ => h_ (Or.inr (Or.inl (q_)))), eσ404, dk_up_n (show ¬ (k_ = 141 ∧ j_ = 6) from fun q_ => h_ (Or.inl (q_))), eσ402, dk_up_n (show ¬ (k_ = 141 ∧ j_ = 8) from fun q_ => h_ (Or.inr (Or.inr (Or.inl (q_))))), eσ12, dk_up_n (show ¬ (k_ = 141 ∧ j_ = 7) from fun q_ => h_ (Or.inr (Or.inl (q_)))), hF8 k_ j_ (fun w_ => h_ (Or.inl (w_))), eσ2, dk_up_n (show ¬ (k_ = 141 ∧ j_ = 6) from fun q_ => h_ (Or.inl (q_)))]), NY_of (by omega) (by omega) (by omega) (by omega) (by omega)⟩
      · skip
        refine dk_aload_n (pc' := 20) hE dX11_next_19 rfl rfl rfl ?_
        refine dk_aload_n (pc' := 21) hE dX11_next_20 rfl rfl rfl ?_
        refine gf_11_6 (pc' := 24) hE fl_X11_215 dX11_next_21 is_141 rfl (fun v412 hv412 htv412 hbv412 => ?_)
        have hq412 : v3 = v412 := (show v412 = v3 by rw [hv412, hv3]).symm
        subst hq412
        clear htv412 hbv412
        refine dk_cV (pc' := 27) (as := [(0, v3)]) hE lk_X11_218 (ct_X11_sign l G hGd v3) dX11_next_24 rfl is_141 rfl (by decide) (Nat.le_of_ble_eq_true rfl) ⟨rfl, (by omega)⟩ rfl (fun r414 σ413 hr414 hor414 => ?_)
        obtain ⟨v415, rfl, hfσ413, hpr414⟩ := hr414
        have hsσ413 : σ8c = σ413 := (funext (fun k => funext (fun j => hfσ413 k j not_false))).symm
        subst hsσ413
        refine dk_bipush (pc' := 29) hE dX11_next_27 (by decide) rfl ?_
        refine dk_icmp_eq (tgt := 45) (pc' := 32) hE dX11_next_29 (by decide) rfl (fun hc416 => ?_) (fun hc416 => ?_)
        · skip
          refine dk_aload_n (pc' := 46) hE dX11_next_45 rfl rfl rfl ?_
          refine dk_dup (pc' := 47) hE dX11_next_46 (show (4 : Nat) ≠ 3 by decide) rfl ?_
          refine gf_11_6 (pc' := 50) hE fl_X11_215 dX11_next_47 is_141 rfl (fun v417 hv417 htv417 hbv417 => ?_)
          have hq417 : v3 = v417 := (show v417 = v3 by rw [hv417, hv412]).symm
          subst hq417
          clear htv417 hbv417
          refine dk_iconst (pc' := 51) hE dX11_next_50 (by decide) rfl ?_
          obtain ⟨v418, hv418⟩ : ∃ z : Int, z = v3 + 1 := ⟨_, rfl⟩
          refine dk_iadd (pc' := 52) hE dX11_next_51 hv418.symm (by omega) rfl ?_
          refine pf_11_6 (pc' := 55) hE fl_X11_215 dX11_next_52 is_141 (by omega) rfl (fun σ419 eσ419 => ?_)
          refine dk_goto (tgt := 8) hE dX11_next_55 (by decide) ?_
          have hz419_141_6 : σ419 141 6 = v418 := by rw [eσ419, dk_up_s]
          have hz420_141_3 := (show σ419 141 3 = _ by rw [eσ419, dk_up_n (show ¬ (141 = 141 ∧ 3 = 6) by omega)])
          exact ih8 σ419 (by omega) (fun k_ j_ h_ => by rw [eσ419, dk_up_n (show ¬ (k_ = 141 ∧ j_ = 6) from fun q_ => h_ (q_)), hF8 k_ j_ (fun w_ => h_ (w_))]) (by omega) (by omega)
        · skip
          refine dk_aload_n (pc' := 33) hE dX11_next_32 rfl rfl rfl ?_
          refine dk_aload_n (pc' := 34) hE dX11_next_33 rfl rfl rfl ?_
          refine gf_11_6 (pc' := 37) hE fl_X11_215 dX11_next_34 is_141 rfl (fun v422 hv422 htv422 hbv422 => ?_)
          have hq422 : v3 = v422 := (show v422 = v3 by rw [hv422, hv412]).symm
          subst hq422
          clear htv422 hbv422
          refine dk_cV (pc' := 40) (as := [(0, v3)]) hE lk_X11_218 (ct_X11_sign l G hGd v3) dX11_next_37 rfl is_141 rfl (by decide) (Nat.le_of_ble_eq_true rfl) ⟨rfl, (by omega)⟩ rfl (fun r424 σ423 hr424 hor424 => ?_)
          obtain ⟨v425, rfl, hfσ423, hpr424⟩ := hr424
          have hsσ423 : σ8c = σ423 := (funext (fun k => funext (fun j => hfσ423 k j not_false))).symm
          subst hsσ423
          refine dk_bipush (pc' := 42) hE dX11_next_40 (by decide) rfl ?_
          refine dk_icmp_ne (tgt := 58) (pc' := 45) hE dX11_next_42 (by decide) rfl (fun hc426 => ?_) (fun hc426 => ?_)
          · skip
            refine dk_aload_n (pc' := 59) hE dX11_next_58 rfl rfl rfl ?_
            refine dk_aload_n (pc' := 60) hE dX11_next_59 rfl rfl rfl ?_
            refine gf_11_6 (pc' := 63) hE fl_X11_215 dX11_next_60 is_141 rfl (fun v427 hv427 htv427 hbv427 => ?_)
            have hq427 : v3 = v427 := (show v427 = v3 by rw [hv427, hv422]).symm
            subst hq427
            clear htv427 hbv427
            refine dk_cV (pc' := 66) (as := [(0, v3)]) hE lk_X11_218 (ct_X11_sign l G hGd v3) dX11_next_63 rfl is_141 rfl (by decide) (Nat.le_of_ble_eq_true rfl) ⟨rfl, (by omega)⟩ rfl (fun r429 σ428 hr429 hor429 => ?_)
            obtain ⟨v430, rfl, hfσ428, hpr429⟩ := hr429
            have hsσ428 : σ8c = σ428 := (funext (fun k => funext (fun j => hfσ428 k j not_false))).symm
            subst hsσ428
            refine dk_istore_n (pc' := 67) (ls' := [(4, 141), (0, v430), (9, 0)]) hE dX11_next_66 rfl rfl (by decide) rfl ?_
            refine dk_aload_n (pc' := 68) hE dX11_next_67 rfl rfl rfl ?_
            refine dk_aload_n (pc' := 69) hE dX11_next_68 rfl rfl rfl ?_
            refine gf_11_6 (pc' := 72) hE fl_X11_215 dX11_next_69 is_141 rfl (fun v431 hv431 htv431 hbv431 => ?_)
            have hq431 : v3 = v431 := (show v431 = v3 by rw [hv431, hv427]).symm
            subst hq431
            clear htv431 hbv431
            refine dk_iconst (pc' := 73) hE dX11_next_72 (by decide) rfl ?_
            obtain ⟨v432, hv432⟩ : ∃ z : Int, z = v3 + 1 := ⟨_, rfl⟩
            refine dk_iadd (pc' := 74) hE dX11_next_73 hv432.symm (by omega) rfl ?_
            refine pf_11_7 (pc' := 77) hE fl_X11_212 dX11_next_74 is_141 (by omega) rfl (fun σ433 eσ433 => ?_)
            refine dk_aload_n (pc' := 78) hE dX11_next_77 rfl rfl rfl ?_
            refine gf_11_6 (pc' := 81) hE fl_X11_215 dX11_next_78 is_141 rfl (fun v434 hv434 htv434 hbv434 => ?_)
            have hq434 : v3 = v434 := (show v434 = v3 by rw [hv434, eσ433, dk_up_n (show ¬ (141 = 141 ∧ 6 = 7) by omega), hv431]).symm
            subst hq434
            clear htv434 hbv434
            refine dk_aload_n (pc' := 82) hE dX11_next_81 rfl rfl rfl ?_
            refine gf_11_3 (pc' := 85) hE fl_X11_164 dX11_next_82 is_141 rfl (fun v435 hv435 htv435 hbv435 => ?_)
            have hq435 : v4 = v435 := (show v435 = v4 by rw [hv435, eσ433, dk_up_n (show ¬ (141 = 141 ∧ 3 = 7) by omega), hv4]).symm
            subst hq435
            clear htv435 hbv435
            refine dk_icmp_lt (tgt := 112) (pc' := 88) hE dX11_next_85 (by decide) rfl (fun hc436 => ?_) (fun hc436 => ?_)
            · skip
              refine dk_iload_n (pc' := 113) hE dX11_next_112 rfl rfl rfl ?_
              refine dk_cS (pc' := 116) (as := [(0, v430)]) hE lk_X11_225 (ct_X11_isLetter l G hGd v430) dX11_next_113 rfl rfl (by decide) (Nat.le_of_ble_eq_true rfl) rfl rfl (fun r438 σ437 hr438 hor438 => ?_)
              obtain ⟨v439, rfl, hfσ437, hpr438⟩ := hr438
              have hsσ437 : σ433 = σ437 := (funext (fun k => funext (fun j => hfσ437 k j not_false))).symm
              subst hsσ437
              rcases hpr438 with ⟨rfl, hpr438⟩ | ⟨rfl, hpr438⟩
              · skip
                refine dk_if_eq (tgt := 239) (pc' := 119) hE dX11_next_116 (by decide) rfl (fun hc440 => absurd hc440 (by decide)) (fun hc440 => ?_)
                have lp119 : ∀ (N_ : Nat) (σ119c : dkS), (1402 - σ119c 141 7).toNat < N_ → ((∀ k_ j_ : Int, ¬ ((k_ = 141 ∧ j_ = 7)) → σ119c k_ j_ = σ433 k_ j_)) → (σ119c 141 6 < σ119c 141 7 ∧ σ119c 141 7 ≤ σ 141 3 ∧ σ 141 7 ≤ σ119c 141 6) → (σ119c 141 3 = σ 141 3 ∧ σ119c 141 4 = σ 141 4) → dk_PJ E 119 [(4, 141), (0, v430), (9, 0)] [] 190 σ119c := by
                  intro N119
                  induction N119 with
                  | zero => intro  σ119c hm; exact absurd hm (Nat.not_lt_zero _)
                  | succ N119 ih119 =>
                    intro  σ119c hm119 hF119 hb hs4
                    have hz441 : σ119c 141 6 = v3 := by rw [hF119 141 6 (by omega), hv434]
                    have hz442 : σ119c 141 6 = v3 := by rw [hF119 141 6 (by omega), hv434]
                    have hz443 : σ119c 141 3 = v4 := by rw [hF119 141 3 (by omega), hv435]
                    have hz444 : σ119c 141 4 = σ 141 4 := by rw [hF119 141 4 (by omega), eσ433, dk_up_n (show ¬ (141 = 141 ∧ 4 = 7) by omega), hF8 141 4 (by omega), eσ2, dk_up_n (show ¬ (141 = 141 ∧ 4 = 6) by omega)]
                    refine dk_aload_n (pc' := 120) hE dX11_next_119 rfl rfl rfl ?_
                    refine dk_aload_n (pc' := 121) hE dX11_next_120 rfl rfl rfl ?_
                    refine gf_11_7 (pc' := 124) hE fl_X11_212 dX11_next_121 is_141 rfl (fun v445 hv445 htv445 hbv445 => ?_)
                    refine dk_cV (pc' := 127) (as := [(0, v445)]) hE lk_X11_218 (ct_X11_sign l G hGd v445) dX11_next_124 rfl is_141 rfl (by decide) (Nat.le_of_ble_eq_true rfl) ⟨rfl, (by omega)⟩ rfl (fun r447 σ446 hr447 hor447 => ?_)
                    obtain ⟨v448, rfl, hfσ446, hpr447⟩ := hr447
                    have hsσ446 : σ119c = σ446 := (funext (fun k => funext (fun j => hfσ446 k j not_false))).symm
                    subst hsσ446
                    refine dk_cS (pc' := 130) (as := [(0, v448)]) hE lk_X11_225 (ct_X11_isLetter l G hGd v448) dX11_next_127 rfl rfl (by decide) (Nat.le_of_ble_eq_true rfl) rfl rfl (fun r450 σ449 hr450 hor450 => ?_)
                    obtain ⟨v451, rfl, hfσ449, hpr450⟩ := hr450
                    have hsσ449 : σ119c = σ449 := (funext (fun k => funext (fun j => hfσ449 k j not_false))).symm
                    subst hsσ449
                    rcases hpr450 with ⟨rfl, hpr450⟩ | ⟨rfl, hpr450⟩
                    · skip
                      refine dk_if_eq (tgt := 146) (pc' := 133) hE dX11_next_130 (by decide) rfl (fun hc452 => absurd hc452 (by decide)) (fun hc452 => ?_)
                      refine dk_aload_n (pc' := 134) hE dX11_next_133 rfl rfl rfl ?_
                      refine dk_dup (pc' := 135) hE dX11_next_134 (show (4 : Nat) ≠ 3 by decide) rfl ?_
                      refine gf_11_7 (pc' := 138) hE fl_X11_212 dX11_next_135 is_141 rfl (fun v453 hv453 htv453 hbv453 => ?_)
                      have hq453 : v445 = v453 := (show v453 = v445 by rw [hv453, hv445]).symm
                      subst hq453
                      clear htv453 hbv453
                      refine dk_iconst (pc' := 139) hE dX11_next_138 (by decide) rfl ?_
                      obtain ⟨v454, hv454⟩ : ∃ z : Int, z = v445 + 1 := ⟨_, rfl⟩
                      refine dk_iadd (pc' := 140) hE dX11_next_139 hv454.symm (by omega) rfl ?_
                      refine pf_11_7 (pc' := 143) hE fl_X11_212 dX11_next_140 is_141 (by omega) rfl (fun σ455 eσ455 => ?_)
                      refine dk_goto (tgt := 119) hE dX11_next_143 (by decide) ?_
                      have hz455_141_6 := (show σ455 141 6 = _ by rw [eσ455, dk_up_n (show ¬ (141 = 141 ∧ 6 = 7) by omega)])
                      have hz456_141_7 : σ455 141 7 = v454 := by rw [eσ455, dk_up_s]
                      have hz457_141_3 := (show σ455 141 3 = _ by rw [eσ455, dk_up_n (show ¬ (141 = 141 ∧ 3 = 7) by omega)])
                      have hz458_141_4 := (show σ455 141 4 = _ by rw [eσ455, dk_up_n (show ¬ (141 = 141 ∧ 4 = 7) by omega)])
                      exact ih119 σ455 (by omega) (fun k_ j_ h_ => by rw [eσ455, dk_up_n (show ¬ (k_ = 141 ∧ j_ = 7) from fun q_ => h_ (q_)), hF119 k_ j_ (fun w_ => h_ (w_))]) (by omega) (by omega)
                    · skip
                      refine dk_if_eq (tgt := 146) (pc' := 133) hE dX11_next_130 (by decide) rfl (fun hc460 => ?_) (fun hc460 => absurd hc460 (by decide))
                      refine dk_aload_n (pc' := 147) hE dX11_next_146 rfl rfl rfl ?_
                      refine dk_lconst (pc' := 148) hE dX11_next_147 (w := 0) rfl rfl ?_
                      refine pf_11_10 (pc' := 151) hE fl_X11_229 dX11_next_148 is_141 trivial rfl (fun σ461 eσ461 => ?_)
                      refine dk_aload_n (pc' := 152) hE dX11_next_151 rfl rfl rfl ?_
                      refine gf_11_6 (pc' := 155) hE fl_X11_215 dX11_next_152 is_141 rfl (fun v462 hv462 htv462 hbv462 => ?_)
                      have hq462 : v3 = v462 := (show v462 = v3 by rw [hv462, eσ461, dk_up_n (show ¬ (141 = 141 ∧ 6 = 10) by omega), hF119 141 6 (by omega), hv434]).symm
                      subst hq462
                      clear htv462 hbv462
                      refine dk_istore_n (pc' := 156) (ls' := [(4, 141), (0, v430), (0, v3)]) hE dX11_next_155 rfl rfl (by decide) rfl ?_
                      have lp156 : ∀ (N_ : Nat) (k : Int) (σ156c : dkS), (2147483648 - k).toNat < N_ → ((∀ k_ j_ : Int, ¬ ((k_ = 141 ∧ j_ = 10)) → σ156c k_ j_ = σ461 k_ j_)) → (0 ≤ k) → (σ156c 141 6 < σ156c 141 7 ∧ σ156c 141 7 ≤ σ 141 3 ∧ σ 141 7 ≤ σ156c 141 6) → (σ156c 141 3 = σ 141 3 ∧ σ156c 141 4 = σ 141 4) → dk_PJ E 156 [(4, 141), (0, v430), (0, k)] [] 190 σ156c := by
                        intro N156
                        induction N156 with
                        | zero => intro k σ156c hm; exact absurd hm (Nat.not_lt_zero _)
                        | succ N156 ih156 =>
                          intro k σ156c hm156 hF156 hk hc hs5
                          refine dk_iload_n (pc' := 157) hE dX11_next_156 rfl rfl rfl ?_
                          refine dk_aload_n (pc' := 158) hE dX11_next_157 rfl rfl rfl ?_
                          refine gf_11_7 (pc' := 161) hE fl_X11_212 dX11_next_158 is_141 rfl (fun v463 hv463 htv463 hbv463 => ?_)
                          have hq463 : v445 = v463 := (show v463 = v445 by rw [hv463, hF156 141 7 (by omega), eσ461, dk_up_n (show ¬ (141 = 141 ∧ 7 = 10) by omega), hv445]).symm
                          subst hq463
                          clear htv463 hbv463
                          refine dk_icmp_ge (tgt := 199) (pc' := 164) hE dX11_next_161 (by decide) rfl (fun hc464 => ?_) (fun hc464 => ?_)
                          · skip
                            refine dk_aload_n (pc' := 200) hE dX11_next_199 rfl rfl rfl ?_
                            refine dk_aload_n (pc' := 201) hE dX11_next_200 rfl rfl rfl ?_
                            refine gf_11_7 (pc' := 204) hE fl_X11_212 dX11_next_201 is_141 rfl (fun v465 hv465 htv465 hbv465 => ?_)
                            have hq465 : v445 = v465 := (show v465 = v445 by rw [hv465, hv463]).symm
                            subst hq465
                            clear htv465 hbv465
                            refine dk_aload_n (pc' := 205) hE dX11_next_204 rfl rfl rfl ?_
                            refine gf_11_6 (pc' := 208) hE fl_X11_215 dX11_next_205 is_141 rfl (fun v466 hv466 htv466 hbv466 => ?_)
                            have hq466 : v3 = v466 := (show v466 = v3 by rw [hv466, hF156 141 6 (by omega), hv462]).symm
                            subst hq466
                            clear htv466 hbv466
                            obtain ⟨v467, hv467⟩ : ∃ z : Int, z = v445 - v3 := ⟨_, rfl⟩
                            refine dk_isub (pc' := 209) hE dX11_next_208 hv467.symm (by omega) rfl ?_
                            refine dk_bipush (pc' := 211) hE dX11_next_209 (by decide) rfl ?_
                            refine dk_icmp_le (tgt := 218) (pc' := 214) hE dX11_next_211 (by decide) rfl (fun hc468 => ?_) (fun hc468 => ?_)
                            · skip
                              refine dk_aload_n (pc' := 219) hE dX11_next_218 rfl rfl rfl ?_
                              refine gf_11_10 (pc' := 222) hE fl_X11_229 dX11_next_219 is_141 rfl (fun v469 hv469 htv469 hbv469 => ?_)
                              refine dk_cS (pc' := 225) (as := [(3, v469)]) hE lk_X11_233 (ct_X11_isKept l G hGd v469) dX11_next_222 rfl rfl (by decide) (Nat.le_of_ble_eq_true rfl) rfl rfl (fun r471 σ470 hr471 hor471 => ?_)
                              obtain ⟨v472, rfl, hfσ470, hpr471⟩ := hr471
                              have hsσ470 : σ156c = σ470 := (funext (fun k => funext (fun j => hfσ470 k j not_false))).symm
                              subst hsσ470
                              refine dk_if_eq (tgt := 232) (pc' := 228) hE dX11_next_225 (by decide) rfl (fun hc473 => ?_) (fun hc473 => ?_)
                              · skip
                                refine dk_iconst (pc' := 233) hE dX11_next_232 (by decide) rfl ?_
                                refine pf_11_8 (pc' := 236) hE fl_X11_222 dX11_next_233 is_141 (by omega) rfl (fun σ474 eσ474 => ?_)
                                refine dk_goto (tgt := 377) hE dX11_next_236 (by decide) ?_
                                have hz475 : σ474 141 3 = v4 := by rw [eσ474, dk_up_n (show ¬ (141 = 141 ∧ 3 = 8) by omega), hF156 141 3 (by omega), eσ461, dk_up_n (show ¬ (141 = 141 ∧ 3 = 10) by omega), hF119 141 3 (by omega), hv435]
                                have hz476 : σ474 141 4 = σ 141 4 := by rw [eσ474, dk_up_n (show ¬ (141 = 141 ∧ 4 = 8) by omega), hF156 141 4 (by omega), eσ461, dk_up_n (show ¬ (141 = 141 ∧ 4 = 10) by omega), hF119 141 4 (by omega), eσ433, dk_up_n (show ¬ (141 = 141 ∧ 4 = 7) by omega), hF8 141 4 (by omega), eσ2, dk_up_n (show ¬ (141 = 141 ∧ 4 = 6) by omega)]
                                have hz477 : σ474 141 6 = v3 := by rw [eσ474, dk_up_n (show ¬ (141 = 141 ∧ 6 = 8) by omega), hv466]
                                have hz478 : σ474 141 7 = v445 := by rw [eσ474, dk_up_n (show ¬ (141 = 141 ∧ 7 = 8) by omega), hv465]
                                have hz479 : σ474 141 8 = 2 := by rw [eσ474, dk_up_s]
                                exact dk_vret (st := []) hE hR dX11_next_377 ⟨rfl, (fun k_ j_ h_ => by rw [eσ474, dk_up_n (show ¬ (k_ = 141 ∧ j_ = 8) from fun q_ => h_ (Or.inr (Or.inr (Or.inl (q_))))), hF156 k_ j_ (fun w_ => h_ (Or.inr (Or.inr (Or.inr (Or.inr (w_)))))), eσ461, dk_up_n (show ¬ (k_ = 141 ∧ j_ = 10) from fun q_ => h_ (Or.inr (Or.inr (Or.inr (Or.inr (q_)))))), hF119 k_ j_ (fun w_ => h_ (Or.inr (Or.inl (w_)))), eσ433, dk_up_n (show ¬ (k_ = 141 ∧ j_ = 7) from fun q_ => h_ (Or.inr (Or.inl (q_)))), hF8 k_ j_ (fun w_ => h_ (Or.inl (w_))), eσ2, dk_up_n (show ¬ (k_ = 141 ∧ j_ = 6) from fun q_ => h_ (Or.inl (q_)))]), NY_of (by omega) (by omega) (by omega) (by omega) (by omega)⟩
                              · skip
                                refine dk_iconst (pc' := 229) hE dX11_next_228 (by decide) rfl ?_
                                refine dk_goto (tgt := 233) hE dX11_next_229 (by decide) ?_
                                refine pf_11_8 (pc' := 236) hE fl_X11_222 dX11_next_233 is_141 (by omega) rfl (fun σ480 eσ480 => ?_)
                                refine dk_goto (tgt := 377) hE dX11_next_236 (by decide) ?_
                                have hz481 : σ480 141 3 = v4 := by rw [eσ480, dk_up_n (show ¬ (141 = 141 ∧ 3 = 8) by omega), hF156 141 3 (by omega), eσ461, dk_up_n (show ¬ (141 = 141 ∧ 3 = 10) by omega), hF119 141 3 (by omega), hv435]
                                have hz482 : σ480 141 4 = σ 141 4 := by rw [eσ480, dk_up_n (show ¬ (141 = 141 ∧ 4 = 8) by omega), hF156 141 4 (by omega), eσ461, dk_up_n (show ¬ (141 = 141 ∧ 4 = 10) by omega), hF119 141 4 (by omega), eσ433, dk_up_n (show ¬ (141 = 141 ∧ 4 = 7) by omega), hF8 141 4 (by omega), eσ2, dk_up_n (show ¬ (141 = 141 ∧ 4 = 6) by omega)]
                                have hz483 : σ480 141 6 = v3 := by rw [eσ480, dk_up_n (show ¬ (141 = 141 ∧ 6 = 8) by omega), hv466]
                                have hz484 : σ480 141 7 = v445 := by rw [eσ480, dk_up_n (show ¬ (141 = 141 ∧ 7 = 8) by omega), hv465]
                                have hz485 : σ480 141 8 = 3 := by rw [eσ480, dk_up_s]
                                exact dk_vret (st := []) hE hR dX11_next_377 ⟨rfl, (fun k_ j_ h_ => by rw [eσ480, dk_up_n (show ¬ (k_ = 141 ∧ j_ = 8) from fun q_ => h_ (Or.inr (Or.inr (Or.inl (q_))))), hF156 k_ j_ (fun w_ => h_ (Or.inr (Or.inr (Or.inr (Or.inr (w_)))))), eσ461, dk_up_n (show ¬ (k_ = 141 ∧ j_ = 10) from fun q_ => h_ (Or.inr (Or.inr (Or.inr (Or.inr (q_)))))), hF119 k_ j_ (fun w_ => h_ (Or.inr (Or.inl (w_)))), eσ433, dk_up_n (show ¬ (k_ = 141 ∧ j_ = 7) from fun q_ => h_ (Or.inr (Or.inl (q_)))), hF8 k_ j_ (fun w_ => h_ (Or.inl (w_))), eσ2, dk_up_n (show ¬ (k_ = 141 ∧ j_ = 6) from fun q_ => h_ (Or.inl (q_)))]), NY_of (by omega) (by omega) (by omega) (by omega) (by omega)⟩
                            · skip
                              refine dk_iconst (pc' := 215) hE dX11_next_214 (by decide) rfl ?_
                              refine dk_goto (tgt := 233) hE dX11_next_215 (by decide) ?_
                              refine pf_11_8 (pc' := 236) hE fl_X11_222 dX11_next_233 is_141 (by omega) rfl (fun σ486 eσ486 => ?_)
                              refine dk_goto (tgt := 377) hE dX11_next_236 (by decide) ?_
                              have hz487 : σ486 141 3 = v4 := by rw [eσ486, dk_up_n (show ¬ (141 = 141 ∧ 3 = 8) by omega), hF156 141 3 (by omega), eσ461, dk_up_n (show ¬ (141 = 141 ∧ 3 = 10) by omega), hF119 141 3 (by omega), hv435]
                              have hz488 : σ486 141 4 = σ 141 4 := by rw [eσ486, dk_up_n (show ¬ (141 = 141 ∧ 4 = 8) by omega), hF156 141 4 (by omega), eσ461, dk_up_n (show ¬ (141 = 141 ∧ 4 = 10) by omega), hF119 141 4 (by omega), eσ433, dk_up_n (show ¬ (141 = 141 ∧ 4 = 7) by omega), hF8 141 4 (by omega), eσ2, dk_up_n (show ¬ (141 = 141 ∧ 4 = 6) by omega)]
                              have hz489 : σ486 141 6 = v3 := by rw [eσ486, dk_up_n (show ¬ (141 = 141 ∧ 6 = 8) by omega), hv466]
                              have hz490 : σ486 141 7 = v445 := by rw [eσ486, dk_up_n (show ¬ (141 = 141 ∧ 7 = 8) by omega), hv465]
                              have hz491 : σ486 141 8 = 1 := by rw [eσ486, dk_up_s]
                              exact dk_vret (st := []) hE hR dX11_next_377 ⟨rfl, (fun k_ j_ h_ => by rw [eσ486, dk_up_n (show ¬ (k_ = 141 ∧ j_ = 8) from fun q_ => h_ (Or.inr (Or.inr (Or.inl (q_))))), hF156 k_ j_ (fun w_ => h_ (Or.inr (Or.inr (Or.inr (Or.inr (w_)))))), eσ461, dk_up_n (show ¬ (k_ = 141 ∧ j_ = 10) from fun q_ => h_ (Or.inr (Or.inr (Or.inr (Or.inr (q_)))))), hF119 k_ j_ (fun w_ => h_ (Or.inr (Or.inl (w_)))), eσ433, dk_up_n (show ¬ (k_ = 141 ∧ j_ = 7) from fun q_ => h_ (Or.inr (Or.inl (q_)))), hF8 k_ j_ (fun w_ => h_ (Or.inl (w_))), eσ2, dk_up_n (show ¬ (k_ = 141 ∧ j_ = 6) from fun q_ => h_ (Or.inl (q_)))]), NY_of (by omega) (by omega) (by omega) (by omega) (by omega)⟩
                          · skip
                            refine dk_iload_n (pc' := 165) hE dX11_next_164 rfl rfl rfl ?_
                            refine dk_aload_n (pc' := 166) hE dX11_next_165 rfl rfl rfl ?_
                            refine gf_11_6 (pc' := 169) hE fl_X11_215 dX11_next_166 is_141 rfl (fun v492 hv492 htv492 hbv492 => ?_)
                            have hq492 : v3 = v492 := (show v492 = v3 by rw [hv492, hF156 141 6 (by omega), hv462]).symm
                            subst hq492
                            clear htv492 hbv492
                            refine dk_bipush (pc' := 171) hE dX11_next_169 (by decide) rfl ?_
                            obtain ⟨v493, hv493⟩ : ∃ z : Int, z = v3 + 8 := ⟨_, rfl⟩
                            refine dk_iadd (pc' := 172) hE dX11_next_171 hv493.symm (by omega) rfl ?_
                            refine dk_icmp_ge (tgt := 199) (pc' := 175) hE dX11_next_172 (by decide) rfl (fun hc494 => ?_) (fun hc494 => ?_)
                            · skip
                              refine dk_aload_n (pc' := 200) hE dX11_next_199 rfl rfl rfl ?_
                              refine dk_aload_n (pc' := 201) hE dX11_next_200 rfl rfl rfl ?_
                              refine gf_11_7 (pc' := 204) hE fl_X11_212 dX11_next_201 is_141 rfl (fun v495 hv495 htv495 hbv495 => ?_)
                              have hq495 : v445 = v495 := (show v495 = v445 by rw [hv495, hv463]).symm
                              subst hq495
                              clear htv495 hbv495
                              refine dk_aload_n (pc' := 205) hE dX11_next_204 rfl rfl rfl ?_
                              refine gf_11_6 (pc' := 208) hE fl_X11_215 dX11_next_205 is_141 rfl (fun v496 hv496 htv496 hbv496 => ?_)
                              have hq496 : v3 = v496 := (show v496 = v3 by rw [hv496, hv492]).symm
                              subst hq496
                              clear htv496 hbv496
                              obtain ⟨v497, hv497⟩ : ∃ z : Int, z = v445 - v3 := ⟨_, rfl⟩
                              refine dk_isub (pc' := 209) hE dX11_next_208 hv497.symm (by omega) rfl ?_
                              refine dk_bipush (pc' := 211) hE dX11_next_209 (by decide) rfl ?_
                              refine dk_icmp_le (tgt := 218) (pc' := 214) hE dX11_next_211 (by decide) rfl (fun hc498 => ?_) (fun hc498 => ?_)
                              · skip
                                refine dk_aload_n (pc' := 219) hE dX11_next_218 rfl rfl rfl ?_
                                refine gf_11_10 (pc' := 222) hE fl_X11_229 dX11_next_219 is_141 rfl (fun v499 hv499 htv499 hbv499 => ?_)
                                refine dk_cS (pc' := 225) (as := [(3, v499)]) hE lk_X11_233 (ct_X11_isKept l G hGd v499) dX11_next_222 rfl rfl (by decide) (Nat.le_of_ble_eq_true rfl) rfl rfl (fun r501 σ500 hr501 hor501 => ?_)
                                obtain ⟨v502, rfl, hfσ500, hpr501⟩ := hr501
                                have hsσ500 : σ156c = σ500 := (funext (fun k => funext (fun j => hfσ500 k j not_false))).symm
                                subst hsσ500
                                refine dk_if_eq (tgt := 232) (pc' := 228) hE dX11_next_225 (by decide) rfl (fun hc503 => ?_) (fun hc503 => ?_)
                                · skip
                                  refine dk_iconst (pc' := 233) hE dX11_next_232 (by decide) rfl ?_
                                  refine pf_11_8 (pc' := 236) hE fl_X11_222 dX11_next_233 is_141 (by omega) rfl (fun σ504 eσ504 => ?_)
                                  refine dk_goto (tgt := 377) hE dX11_next_236 (by decide) ?_
                                  have hz505 : σ504 141 3 = v4 := by rw [eσ504, dk_up_n (show ¬ (141 = 141 ∧ 3 = 8) by omega), hF156 141 3 (by omega), eσ461, dk_up_n (show ¬ (141 = 141 ∧ 3 = 10) by omega), hF119 141 3 (by omega), hv435]
                                  have hz506 : σ504 141 4 = σ 141 4 := by rw [eσ504, dk_up_n (show ¬ (141 = 141 ∧ 4 = 8) by omega), hF156 141 4 (by omega), eσ461, dk_up_n (show ¬ (141 = 141 ∧ 4 = 10) by omega), hF119 141 4 (by omega), eσ433, dk_up_n (show ¬ (141 = 141 ∧ 4 = 7) by omega), hF8 141 4 (by omega), eσ2, dk_up_n (show ¬ (141 = 141 ∧ 4 = 6) by omega)]
                                  have hz507 : σ504 141 6 = v3 := by rw [eσ504, dk_up_n (show ¬ (141 = 141 ∧ 6 = 8) by omega), hv496]
                                  have hz508 : σ504 141 7 = v445 := by rw [eσ504, dk_up_n (show ¬ (141 = 141 ∧ 7 = 8) by omega), hv495]
                                  have hz509 : σ504 141 8 = 2 := by rw [eσ504, dk_up_s]
                                  exact dk_vret (st := []) hE hR dX11_next_377 ⟨rfl, (fun k_ j_ h_ => by rw [eσ504, dk_up_n (show ¬ (k_ = 141 ∧ j_ = 8) from fun q_ => h_ (Or.inr (Or.inr (Or.inl (q_))))), hF156 k_ j_ (fun w_ => h_ (Or.inr (Or.inr (Or.inr (Or.inr (w_)))))), eσ461, dk_up_n (show ¬ (k_ = 141 ∧ j_ = 10) from fun q_ => h_ (Or.inr (Or.inr (Or.inr (Or.inr (q_)))))), hF119 k_ j_ (fun w_ => h_ (Or.inr (Or.inl (w_)))), eσ433, dk_up_n (show ¬ (k_ = 141 ∧ j_ = 7) from fun q_ => h_ (Or.inr (Or.inl (q_)))), hF8 k_ j_ (fun w_ => h_ (Or.inl (w_))), eσ2, dk_up_n (show ¬ (k_ = 141 ∧ j_ = 6) from fun q_ => h_ (Or.inl (q_)))]), NY_of (by omega) (by omega) (by omega) (by omega) (by omega)⟩
                                · skip
                                  refine dk_iconst (pc' := 229) hE dX11_next_228 (by decide) rfl ?_
                                  refine dk_goto (tgt := 233) hE dX11_next_229 (by decide) ?_
                                  refine pf_11_8 (pc' := 236) hE fl_X11_222 dX11_next_233 is_141 (by omega) rfl (fun σ510 eσ510 => ?_)
                                  refine dk_goto (tgt := 377) hE dX11_next_236 (by decide) ?_
                                  have hz511 : σ510 141 3 = v4 := by rw [eσ510, dk_up_n (show ¬ (141 = 141 ∧ 3 = 8) by omega), hF156 141 3 (by omega), eσ461, dk_up_n (show ¬ (141 = 141 ∧ 3 = 10) by omega), hF119 141 3 (by omega), hv435]
                                  have hz512 : σ510 141 4 = σ 141 4 := by rw [eσ510, dk_up_n (show ¬ (141 = 141 ∧ 4 = 8) by omega), hF156 141 4 (by omega), eσ461, dk_up_n (show ¬ (141 = 141 ∧ 4 = 10) by omega), hF119 141 4 (by omega), eσ433, dk_up_n (show ¬ (141 = 141 ∧ 4 = 7) by omega), hF8 141 4 (by omega), eσ2, dk_up_n (show ¬ (141 = 141 ∧ 4 = 6) by omega)]
                                  have hz513 : σ510 141 6 = v3 := by rw [eσ510, dk_up_n (show ¬ (141 = 141 ∧ 6 = 8) by omega), hv496]
                                  have hz514 : σ510 141 7 = v445 := by rw [eσ510, dk_up_n (show ¬ (141 = 141 ∧ 7 = 8) by omega), hv495]
                                  have hz515 : σ510 141 8 = 3 := by rw [eσ510, dk_up_s]
                                  exact dk_vret (st := []) hE hR dX11_next_377 ⟨rfl, (fun k_ j_ h_ => by rw [eσ510, dk_up_n (show ¬ (k_ = 141 ∧ j_ = 8) from fun q_ => h_ (Or.inr (Or.inr (Or.inl (q_))))), hF156 k_ j_ (fun w_ => h_ (Or.inr (Or.inr (Or.inr (Or.inr (w_)))))), eσ461, dk_up_n (show ¬ (k_ = 141 ∧ j_ = 10) from fun q_ => h_ (Or.inr (Or.inr (Or.inr (Or.inr (q_)))))), hF119 k_ j_ (fun w_ => h_ (Or.inr (Or.inl (w_)))), eσ433, dk_up_n (show ¬ (k_ = 141 ∧ j_ = 7) from fun q_ => h_ (Or.inr (Or.inl (q_)))), hF8 k_ j_ (fun w_ => h_ (Or.inl (w_))), eσ2, dk_up_n (show ¬ (k_ = 141 ∧ j_ = 6) from fun q_ => h_ (Or.inl (q_)))]), NY_of (by omega) (by omega) (by omega) (by omega) (by omega)⟩
                              · skip
                                refine dk_iconst (pc' := 215) hE dX11_next_214 (by decide) rfl ?_
                                refine dk_goto (tgt := 233) hE dX11_next_215 (by decide) ?_
                                refine pf_11_8 (pc' := 236) hE fl_X11_222 dX11_next_233 is_141 (by omega) rfl (fun σ516 eσ516 => ?_)
                                refine dk_goto (tgt := 377) hE dX11_next_236 (by decide) ?_
                                have hz517 : σ516 141 3 = v4 := by rw [eσ516, dk_up_n (show ¬ (141 = 141 ∧ 3 = 8) by omega), hF156 141 3 (by omega), eσ461, dk_up_n (show ¬ (141 = 141 ∧ 3 = 10) by omega), hF119 141 3 (by omega), hv435]
                                have hz518 : σ516 141 4 = σ 141 4 := by rw [eσ516, dk_up_n (show ¬ (141 = 141 ∧ 4 = 8) by omega), hF156 141 4 (by omega), eσ461, dk_up_n (show ¬ (141 = 141 ∧ 4 = 10) by omega), hF119 141 4 (by omega), eσ433, dk_up_n (show ¬ (141 = 141 ∧ 4 = 7) by omega), hF8 141 4 (by omega), eσ2, dk_up_n (show ¬ (141 = 141 ∧ 4 = 6) by omega)]
                                have hz519 : σ516 141 6 = v3 := by rw [eσ516, dk_up_n (show ¬ (141 = 141 ∧ 6 = 8) by omega), hv496]
                                have hz520 : σ516 141 7 = v445 := by rw [eσ516, dk_up_n (show ¬ (141 = 141 ∧ 7 = 8) by omega), hv495]
                                have hz521 : σ516 141 8 = 1 := by rw [eσ516, dk_up_s]
                                exact dk_vret (st := []) hE hR dX11_next_377 ⟨rfl, (fun k_ j_ h_ => by rw [eσ516, dk_up_n (show ¬ (k_ = 141 ∧ j_ = 8) from fun q_ => h_ (Or.inr (Or.inr (Or.inl (q_))))), hF156 k_ j_ (fun w_ => h_ (Or.inr (Or.inr (Or.inr (Or.inr (w_)))))), eσ461, dk_up_n (show ¬ (k_ = 141 ∧ j_ = 10) from fun q_ => h_ (Or.inr (Or.inr (Or.inr (Or.inr (q_)))))), hF119 k_ j_ (fun w_ => h_ (Or.inr (Or.inl (w_)))), eσ433, dk_up_n (show ¬ (k_ = 141 ∧ j_ = 7) from fun q_ => h_ (Or.inr (Or.inl (q_)))), hF8 k_ j_ (fun w_ => h_ (Or.inl (w_))), eσ2, dk_up_n (show ¬ (k_ = 141 ∧ j_ = 6) from fun q_ => h_ (Or.inl (q_)))]), NY_of (by omega) (by omega) (by omega) (by omega) (by omega)⟩
                            · skip
                              refine dk_aload_n (pc' := 176) hE dX11_next_175 rfl rfl rfl ?_
                              refine dk_aload_n (pc' := 177) hE dX11_next_176 rfl rfl rfl ?_
                              refine gf_11_10 (pc' := 180) hE fl_X11_229 dX11_next_177 is_141 rfl (fun v522 hv522 htv522 hbv522 => ?_)
                              refine dk_bipush (pc' := 182) hE dX11_next_180 (by decide) rfl ?_
                              refine dk_lshl (pc' := 183) hE dX11_next_182 rfl (fun v523 hv523 => ?_)
                              refine dk_aload_n (pc' := 184) hE dX11_next_183 rfl rfl rfl ?_
                              refine dk_iload_n (pc' := 185) hE dX11_next_184 rfl rfl rfl ?_
                              refine dk_cV (pc' := 188) (as := [(0, k)]) hE lk_X11_218 (ct_X11_sign l G hGd k) dX11_next_185 rfl is_141 rfl (by decide) (Nat.le_of_ble_eq_true rfl) ⟨rfl, (by omega)⟩ rfl (fun r525 σ524 hr525 hor525 => ?_)
                              obtain ⟨v526, rfl, hfσ524, hpr525⟩ := hr525
                              have hsσ524 : σ156c = σ524 := (funext (fun k => funext (fun j => hfσ524 k j not_false))).symm
                              subst hsσ524
                              refine dk_i2l (pc' := 189) hE dX11_next_188 rfl ?_
                              refine dk_lor (pc' := 190) hE dX11_next_189 rfl (fun v527 hv527 => ?_)
                              refine pf_11_10 (pc' := 193) hE fl_X11_229 dX11_next_190 is_141 trivial rfl (fun σ528 eσ528 => ?_)
                              obtain ⟨v529, hv529⟩ : ∃ z : Int, z = k + 1 := ⟨_, rfl⟩
                              refine dk_iinc (pc' := 196) (ls' := [(4, 141), (0, v430), (0, v529)]) hE dX11_next_193 rfl hv529.symm (by omega) rfl (by decide) rfl ?_
                              refine dk_goto (tgt := 156) hE dX11_next_196 (by decide) ?_
                              have hz529_141_6 := (show σ528 141 6 = _ by rw [eσ528, dk_up_n (show ¬ (141 = 141 ∧ 6 = 10) by omega)])
                              have hz530_141_7 := (show σ528 141 7 = _ by rw [eσ528, dk_up_n (show ¬ (141 = 141 ∧ 7 = 10) by omega)])
                              have hz531_141_3 := (show σ528 141 3 = _ by rw [eσ528, dk_up_n (show ¬ (141 = 141 ∧ 3 = 10) by omega)])
                              have hz532_141_4 := (show σ528 141 4 = _ by rw [eσ528, dk_up_n (show ¬ (141 = 141 ∧ 4 = 10) by omega)])
                              exact ih156 v529 σ528 (by omega) (fun k_ j_ h_ => by rw [eσ528, dk_up_n (show ¬ (k_ = 141 ∧ j_ = 10) from fun q_ => h_ (q_)), hF156 k_ j_ (fun w_ => h_ (w_))]) (by omega) (by omega) (by omega)
                      have hz534 : σ461 141 6 = v3 := by rw [hv462]
                      have hz535 : σ461 141 7 = v445 := by rw [eσ461, dk_up_n (show ¬ (141 = 141 ∧ 7 = 10) by omega), hv445]
                      have hz536 : σ461 141 7 = v445 := by rw [eσ461, dk_up_n (show ¬ (141 = 141 ∧ 7 = 10) by omega), hv445]
                      have hz537 : σ461 141 6 = v3 := by rw [hv462]
                      have hz538 : σ461 141 3 = v4 := by rw [eσ461, dk_up_n (show ¬ (141 = 141 ∧ 3 = 10) by omega), hF119 141 3 (by omega), hv435]
                      have hz539 : σ461 141 4 = σ 141 4 := by rw [eσ461, dk_up_n (show ¬ (141 = 141 ∧ 4 = 10) by omega), hF119 141 4 (by omega), eσ433, dk_up_n (show ¬ (141 = 141 ∧ 4 = 7) by omega), hF8 141 4 (by omega), eσ2, dk_up_n (show ¬ (141 = 141 ∧ 4 = 6) by omega)]
                      exact lp156 _ v3 σ461 (Nat.lt_succ_self _) (fun k_ j_ h_ => rfl) (by omega) (by omega) (by omega)
                have hz544 : σ433 141 6 = v3 := by rw [hv434]
                have hz545 : σ433 141 7 = v432 := by rw [eσ433, dk_up_s]
                have hz546 : σ433 141 7 = v432 := by rw [eσ433, dk_up_s]
                have hz547 : σ433 141 6 = v3 := by rw [hv434]
                have hz548 : σ433 141 3 = v4 := by rw [hv435]
                have hz549 : σ433 141 4 = σ 141 4 := by rw [eσ433, dk_up_n (show ¬ (141 = 141 ∧ 4 = 7) by omega), hF8 141 4 (by omega), eσ2, dk_up_n (show ¬ (141 = 141 ∧ 4 = 6) by omega)]
                have hz550 : σ433 141 7 = v432 := by rw [eσ433, dk_up_s]
                have hz551_141_7 : σ433 141 7 = v432 := by rw [eσ433, dk_up_s]
                exact lp119 _ σ433 (Nat.lt_succ_self _) (fun k_ j_ h_ => rfl) (by omega) (by omega)
              · skip
                refine dk_if_eq (tgt := 239) (pc' := 119) hE dX11_next_116 (by decide) rfl (fun hc555 => ?_) (fun hc555 => absurd hc555 (by decide))
                refine dk_iload_n (pc' := 240) hE dX11_next_239 rfl rfl rfl ?_
                refine dk_cS (pc' := 243) (as := [(0, v430)]) hE lk_X11_237 (ct_X11_isDigit l G hGd v430) dX11_next_240 rfl rfl (by decide) (Nat.le_of_ble_eq_true rfl) rfl rfl (fun r557 σ556 hr557 hor557 => ?_)
                obtain ⟨v558, rfl, hfσ556, hpr557⟩ := hr557
                have hsσ556 : σ433 = σ556 := (funext (fun k => funext (fun j => hfσ556 k j not_false))).symm
                subst hsσ556
                rcases hpr557 with ⟨rfl, hpr557⟩ | ⟨rfl, hpr557⟩
                · skip
                  refine dk_if_eq (tgt := 361) (pc' := 246) hE dX11_next_243 (by decide) rfl (fun hc559 => absurd hc559 (by decide)) (fun hc559 => ?_)
                  refine dk_aload_n (pc' := 247) hE dX11_next_246 rfl rfl rfl ?_
                  refine dk_iconst (pc' := 248) hE dX11_next_247 (by decide) rfl ?_
                  refine pf_11_9 (pc' := 251) hE fl_X11_240 dX11_next_248 is_141 (by omega) rfl (fun σ560 eσ560 => ?_)
                  refine dk_aload_n (pc' := 252) hE dX11_next_251 rfl rfl rfl ?_
                  refine dk_aload_n (pc' := 253) hE dX11_next_252 rfl rfl rfl ?_
                  refine gf_11_6 (pc' := 256) hE fl_X11_215 dX11_next_253 is_141 rfl (fun v561 hv561 htv561 hbv561 => ?_)
                  have hq561 : v3 = v561 := (show v561 = v3 by rw [hv561, eσ560, dk_up_n (show ¬ (141 = 141 ∧ 6 = 9) by omega), hv434]).symm
                  subst hq561
                  clear htv561 hbv561
                  refine pf_11_7 (pc' := 259) hE fl_X11_212 dX11_next_256 is_141 (by omega) rfl (fun σ562 eσ562 => ?_)
                  refine dk_aload_n (pc' := 260) hE dX11_next_259 rfl rfl rfl ?_
                  refine dk_aload_n (pc' := 261) hE dX11_next_260 rfl rfl rfl ?_
                  refine gf_11_7 (pc' := 264) hE fl_X11_212 dX11_next_261 is_141 rfl (fun v563 hv563 htv563 hbv563 => ?_)
                  have hq563 : v3 = v563 := (show v563 = v3 by rw [hv563, eσ562, dk_up_s]).symm
                  subst hq563
                  clear htv563 hbv563
                  have hn566 : tsg σ562 v3 = tsg σ8c v3 := by rw [eσ562, tsg_up (by decide) (by decide), eσ560, tsg_up (by decide) (by decide), eσ433, tsg_up (by decide) (by decide)]
                  refine dk_cV (pc' := 267) (as := [(0, v3)]) hE lk_X11_218 (ct_X11_sign l G hGd v3) dX11_next_264 rfl is_141 rfl (by decide) (Nat.le_of_ble_eq_true rfl) ⟨rfl, (by omega)⟩ rfl (fun r565 σ564 hr565 hor565 => ?_)
                  obtain ⟨v567, rfl, hfσ564, hpr565⟩ := hr565
                  have hsσ564 : σ562 = σ564 := (funext (fun k => funext (fun j => hfσ564 k j not_false))).symm
                  subst hsσ564
                  refine dk_cS (pc' := 270) (as := [(0, v567)]) hE lk_X11_237 (ct_X11_isDigit l G hGd v567) dX11_next_267 rfl rfl (by decide) (Nat.le_of_ble_eq_true rfl) rfl rfl (fun r569 σ568 hr569 hor569 => ?_)
                  obtain ⟨v570, rfl, hfσ568, hpr569⟩ := hr569
                  have hsσ568 : σ562 = σ568 := (funext (fun k => funext (fun j => hfσ568 k j not_false))).symm
                  subst hsσ568
                  rcases hpr569 with ⟨rfl, hpr569⟩ | ⟨rfl, hpr569⟩
                  · skip
                    refine dk_if_eq (tgt := 322) (pc' := 273) hE dX11_next_270 (by decide) rfl (fun hc571 => absurd hc571 (by decide)) (fun hc571 => ?_)
                    refine dk_aload_n (pc' := 274) hE dX11_next_273 rfl rfl rfl ?_
                    refine gf_11_7 (pc' := 277) hE fl_X11_212 dX11_next_274 is_141 rfl (fun v572 hv572 htv572 hbv572 => ?_)
                    have hq572 : v3 = v572 := (show v572 = v3 by rw [hv572, hv563]).symm
                    subst hq572
                    clear htv572 hbv572
                    refine dk_aload_n (pc' := 278) hE dX11_next_277 rfl rfl rfl ?_
                    refine gf_11_6 (pc' := 281) hE fl_X11_215 dX11_next_278 is_141 rfl (fun v573 hv573 htv573 hbv573 => ?_)
                    have hq573 : v3 = v573 := (show v573 = v3 by rw [hv573, eσ562, dk_up_n (show ¬ (141 = 141 ∧ 6 = 7) by omega), hv561]).symm
                    subst hq573
                    clear htv573 hbv573
                    obtain ⟨v574, hv574⟩ : ∃ z : Int, z = v3 - v3 := ⟨_, rfl⟩
                    refine dk_isub (pc' := 282) hE dX11_next_281 hv574.symm (by omega) rfl ?_
                    refine dk_iconst (pc' := 283) hE dX11_next_282 (by decide) rfl ?_
                    refine dk_icmp_ge (tgt := 309) (pc' := 286) hE dX11_next_283 (by decide) rfl (fun hc575 => ?_) (fun hc575 => ?_)
                    · skip
                      refine dk_aload_n (pc' := 310) hE dX11_next_309 rfl rfl rfl ?_
                      refine dk_dup (pc' := 311) hE dX11_next_310 (show (4 : Nat) ≠ 3 by decide) rfl ?_
                      refine gf_11_7 (pc' := 314) hE fl_X11_212 dX11_next_311 is_141 rfl (fun v576 hv576 htv576 hbv576 => ?_)
                      have hq576 : v3 = v576 := (show v576 = v3 by rw [hv576, hv572]).symm
                      subst hq576
                      clear htv576 hbv576
                      refine dk_iconst (pc' := 315) hE dX11_next_314 (by decide) rfl ?_
                      obtain ⟨v577, hv577⟩ : ∃ z : Int, z = v3 + 1 := ⟨_, rfl⟩
                      refine dk_iadd (pc' := 316) hE dX11_next_315 hv577.symm (by omega) rfl ?_
                      refine pf_11_7 (pc' := 319) hE fl_X11_212 dX11_next_316 is_141 (by omega) rfl (fun σ578 eσ578 => ?_)
                      refine dk_goto (tgt := 259) hE dX11_next_319 (by decide) ?_
                      have lp259 : ∀ (N_ : Nat) (σ259c : dkS), (1402 - σ259c 141 7).toNat < N_ → ((∀ k_ j_ : Int, ¬ ((k_ = 141 ∧ j_ = 7) ∨ (k_ = 141 ∧ j_ = 9)) → σ259c k_ j_ = σ578 k_ j_)) → (σ259c 141 6 < σ259c 141 7 ∧ σ259c 141 7 ≤ σ 141 3 ∧ σ 141 7 ≤ σ259c 141 6) → (σ259c 141 3 = σ 141 3 ∧ σ259c 141 4 = σ 141 4) → ((σ259c 141 7 - σ259c 141 6 = 1 ∧ σ259c 141 9 ≤ 9) ∨ (σ259c 141 7 - σ259c 141 6 = 2 ∧ σ259c 141 9 ≤ 99) ∨ (σ259c 141 7 - σ259c 141 6 = 3 ∧ σ259c 141 9 ≤ 999) ∨ 4 ≤ σ259c 141 7 - σ259c 141 6) → dk_PJ E 259 [(4, 141), (0, v430), (9, 0)] [] 190 σ259c := by
                        intro N259
                        induction N259 with
                        | zero => intro  σ259c hm; exact absurd hm (Nat.not_lt_zero _)
                        | succ N259 ih259 =>
                          intro  σ259c hm259 hF259 hd hs6 hn
                          refine dk_aload_n (pc' := 260) hE dX11_next_259 rfl rfl rfl ?_
                          refine dk_aload_n (pc' := 261) hE dX11_next_260 rfl rfl rfl ?_
                          refine gf_11_7 (pc' := 264) hE fl_X11_212 dX11_next_261 is_141 rfl (fun v579 hv579 htv579 hbv579 => ?_)
                          refine dk_cV (pc' := 267) (as := [(0, v579)]) hE lk_X11_218 (ct_X11_sign l G hGd v579) dX11_next_264 rfl is_141 rfl (by decide) (Nat.le_of_ble_eq_true rfl) ⟨rfl, (by omega)⟩ rfl (fun r581 σ580 hr581 hor581 => ?_)
                          obtain ⟨v582, rfl, hfσ580, hpr581⟩ := hr581
                          have hsσ580 : σ259c = σ580 := (funext (fun k => funext (fun j => hfσ580 k j not_false))).symm
                          subst hsσ580
                          refine dk_cS (pc' := 270) (as := [(0, v582)]) hE lk_X11_237 (ct_X11_isDigit l G hGd v582) dX11_next_267 rfl rfl (by decide) (Nat.le_of_ble_eq_true rfl) rfl rfl (fun r584 σ583 hr584 hor584 => ?_)
                          obtain ⟨v585, rfl, hfσ583, hpr584⟩ := hr584
                          have hsσ583 : σ259c = σ583 := (funext (fun k => funext (fun j => hfσ583 k j not_false))).symm
                          subst hsσ583
                          rcases hpr584 with ⟨rfl, hpr584⟩ | ⟨rfl, hpr584⟩
                          · skip
                            refine dk_if_eq (tgt := 322) (pc' := 273) hE dX11_next_270 (by decide) rfl (fun hc586 => absurd hc586 (by decide)) (fun hc586 => ?_)
                            refine dk_aload_n (pc' := 274) hE dX11_next_273 rfl rfl rfl ?_
                            refine gf_11_7 (pc' := 277) hE fl_X11_212 dX11_next_274 is_141 rfl (fun v587 hv587 htv587 hbv587 => ?_)
                            have hq587 : v579 = v587 := (show v587 = v579 by rw [hv587, hv579]).symm
                            subst hq587
                            clear htv587 hbv587
                            refine dk_aload_n (pc' := 278) hE dX11_next_277 rfl rfl rfl ?_
                            refine gf_11_6 (pc' := 281) hE fl_X11_215 dX11_next_278 is_141 rfl (fun v588 hv588 htv588 hbv588 => ?_)
                            have hq588 : v3 = v588 := (show v588 = v3 by rw [hv588, hF259 141 6 (by omega), eσ578, dk_up_n (show ¬ (141 = 141 ∧ 6 = 7) by omega), hv573]).symm
                            subst hq588
                            clear htv588 hbv588
                            obtain ⟨v589, hv589⟩ : ∃ z : Int, z = v579 - v3 := ⟨_, rfl⟩
                            refine dk_isub (pc' := 282) hE dX11_next_281 hv589.symm (by omega) rfl ?_
                            refine dk_iconst (pc' := 283) hE dX11_next_282 (by decide) rfl ?_
                            refine dk_icmp_ge (tgt := 309) (pc' := 286) hE dX11_next_283 (by decide) rfl (fun hc590 => ?_) (fun hc590 => ?_)
                            · skip
                              refine dk_aload_n (pc' := 310) hE dX11_next_309 rfl rfl rfl ?_
                              refine dk_dup (pc' := 311) hE dX11_next_310 (show (4 : Nat) ≠ 3 by decide) rfl ?_
                              refine gf_11_7 (pc' := 314) hE fl_X11_212 dX11_next_311 is_141 rfl (fun v591 hv591 htv591 hbv591 => ?_)
                              have hq591 : v579 = v591 := (show v591 = v579 by rw [hv591, hv587]).symm
                              subst hq591
                              clear htv591 hbv591
                              refine dk_iconst (pc' := 315) hE dX11_next_314 (by decide) rfl ?_
                              obtain ⟨v592, hv592⟩ : ∃ z : Int, z = v579 + 1 := ⟨_, rfl⟩
                              refine dk_iadd (pc' := 316) hE dX11_next_315 hv592.symm (by omega) rfl ?_
                              refine pf_11_7 (pc' := 319) hE fl_X11_212 dX11_next_316 is_141 (by omega) rfl (fun σ593 eσ593 => ?_)
                              refine dk_goto (tgt := 259) hE dX11_next_319 (by decide) ?_
                              have hz593_141_6 := (show σ593 141 6 = _ by rw [eσ593, dk_up_n (show ¬ (141 = 141 ∧ 6 = 7) by omega)])
                              have hz594_141_7 : σ593 141 7 = v592 := by rw [eσ593, dk_up_s]
                              have hz595_141_3 := (show σ593 141 3 = _ by rw [eσ593, dk_up_n (show ¬ (141 = 141 ∧ 3 = 7) by omega)])
                              have hz596_141_4 := (show σ593 141 4 = _ by rw [eσ593, dk_up_n (show ¬ (141 = 141 ∧ 4 = 7) by omega)])
                              have hz597_141_9 := (show σ593 141 9 = _ by rw [eσ593, dk_up_n (show ¬ (141 = 141 ∧ 9 = 7) by omega)])
                              exact ih259 σ593 (by omega) (fun k_ j_ h_ => by rw [eσ593, dk_up_n (show ¬ (k_ = 141 ∧ j_ = 7) from fun q_ => h_ (Or.inl (q_))), hF259 k_ j_ (fun w_ => h_ (w_.elim (fun x0_ => Or.inl (x0_)) (fun y0_ => Or.inr (y0_))))]) (by omega) (by omega) (by omega)
                            · skip
                              refine dk_aload_n (pc' := 287) hE dX11_next_286 rfl rfl rfl ?_
                              refine dk_bipush (pc' := 289) hE dX11_next_287 (by decide) rfl ?_
                              refine dk_aload_n (pc' := 290) hE dX11_next_289 rfl rfl rfl ?_
                              refine gf_11_9 (pc' := 293) hE fl_X11_240 dX11_next_290 is_141 rfl (fun v599 hv599 htv599 hbv599 => ?_)
                              obtain ⟨v600, hv600⟩ : ∃ z : Int, z = 10 * v599 := ⟨_, rfl⟩
                              refine dk_imul (pc' := 294) hE dX11_next_293 hv600.symm (by omega) rfl ?_
                              refine dk_aload_n (pc' := 295) hE dX11_next_294 rfl rfl rfl ?_
                              refine dk_aload_n (pc' := 296) hE dX11_next_295 rfl rfl rfl ?_
                              refine gf_11_7 (pc' := 299) hE fl_X11_212 dX11_next_296 is_141 rfl (fun v601 hv601 htv601 hbv601 => ?_)
                              have hq601 : v579 = v601 := (show v601 = v579 by rw [hv601, hv587]).symm
                              subst hq601
                              clear htv601 hbv601
                              refine dk_cV (pc' := 302) (as := [(0, v579)]) hE lk_X11_218 (ct_X11_sign l G hGd v579) dX11_next_299 rfl is_141 rfl (by decide) (Nat.le_of_ble_eq_true rfl) ⟨rfl, (by omega)⟩ rfl (fun r603 σ602 hr603 hor603 => ?_)
                              obtain ⟨v604, rfl, hfσ602, hpr603⟩ := hr603
                              have hsσ602 : σ259c = σ602 := (funext (fun k => funext (fun j => hfσ602 k j not_false))).symm
                              subst hsσ602
                              obtain ⟨v605, hv605⟩ : ∃ z : Int, z = v600 + v604 := ⟨_, rfl⟩
                              refine dk_iadd (pc' := 303) hE dX11_next_302 hv605.symm (by omega) rfl ?_
                              refine dk_bipush (pc' := 305) hE dX11_next_303 (by decide) rfl ?_
                              obtain ⟨v606, hv606⟩ : ∃ z : Int, z = v605 - 48 := ⟨_, rfl⟩
                              refine dk_isub (pc' := 306) hE dX11_next_305 hv606.symm (by omega) rfl ?_
                              refine pf_11_9 (pc' := 309) hE fl_X11_240 dX11_next_306 is_141 (by omega) rfl (fun σ607 eσ607 => ?_)
                              refine dk_aload_n (pc' := 310) hE dX11_next_309 rfl rfl rfl ?_
                              refine dk_dup (pc' := 311) hE dX11_next_310 (show (4 : Nat) ≠ 3 by decide) rfl ?_
                              refine gf_11_7 (pc' := 314) hE fl_X11_212 dX11_next_311 is_141 rfl (fun v608 hv608 htv608 hbv608 => ?_)
                              have hq608 : v579 = v608 := (show v608 = v579 by rw [hv608, eσ607, dk_up_n (show ¬ (141 = 141 ∧ 7 = 9) by omega), hv601]).symm
                              subst hq608
                              clear htv608 hbv608
                              refine dk_iconst (pc' := 315) hE dX11_next_314 (by decide) rfl ?_
                              obtain ⟨v609, hv609⟩ : ∃ z : Int, z = v579 + 1 := ⟨_, rfl⟩
                              refine dk_iadd (pc' := 316) hE dX11_next_315 hv609.symm (by omega) rfl ?_
                              refine pf_11_7 (pc' := 319) hE fl_X11_212 dX11_next_316 is_141 (by omega) rfl (fun σ610 eσ610 => ?_)
                              refine dk_goto (tgt := 259) hE dX11_next_319 (by decide) ?_
                              have hz610_141_6 := (show σ610 141 6 = _ by rw [eσ610, dk_up_n (show ¬ (141 = 141 ∧ 6 = 7) by omega), eσ607, dk_up_n (show ¬ (141 = 141 ∧ 6 = 9) by omega)])
                              have hz611_141_7 : σ610 141 7 = v609 := by rw [eσ610, dk_up_s]
                              have hz612_141_3 := (show σ610 141 3 = _ by rw [eσ610, dk_up_n (show ¬ (141 = 141 ∧ 3 = 7) by omega), eσ607, dk_up_n (show ¬ (141 = 141 ∧ 3 = 9) by omega)])
                              have hz613_141_4 := (show σ610 141 4 = _ by rw [eσ610, dk_up_n (show ¬ (141 = 141 ∧ 4 = 7) by omega), eσ607, dk_up_n (show ¬ (141 = 141 ∧ 4 = 9) by omega)])
                              have hz614_141_9 : σ610 141 9 = v606 := by rw [eσ610, dk_up_n (show ¬ (141 = 141 ∧ 9 = 7) by omega), eσ607, dk_up_s]
                              exact ih259 σ610 (by omega) (fun k_ j_ h_ => by rw [eσ610, dk_up_n (show ¬ (k_ = 141 ∧ j_ = 7) from fun q_ => h_ (Or.inl (q_))), eσ607, dk_up_n (show ¬ (k_ = 141 ∧ j_ = 9) from fun q_ => h_ (Or.inr (q_))), hF259 k_ j_ (fun w_ => h_ (w_.elim (fun x0_ => Or.inl (x0_)) (fun y0_ => Or.inr (y0_))))]) (by omega) (by omega) (by omega)
                          · skip
                            refine dk_if_eq (tgt := 322) (pc' := 273) hE dX11_next_270 (by decide) rfl (fun hc616 => ?_) (fun hc616 => absurd hc616 (by decide))
                            refine dk_aload_n (pc' := 323) hE dX11_next_322 rfl rfl rfl ?_
                            refine dk_aload_n (pc' := 324) hE dX11_next_323 rfl rfl rfl ?_
                            refine gf_11_7 (pc' := 327) hE fl_X11_212 dX11_next_324 is_141 rfl (fun v617 hv617 htv617 hbv617 => ?_)
                            have hq617 : v579 = v617 := (show v617 = v579 by rw [hv617, hv579]).symm
                            subst hq617
                            clear htv617 hbv617
                            refine dk_aload_n (pc' := 328) hE dX11_next_327 rfl rfl rfl ?_
                            refine gf_11_6 (pc' := 331) hE fl_X11_215 dX11_next_328 is_141 rfl (fun v618 hv618 htv618 hbv618 => ?_)
                            have hq618 : v3 = v618 := (show v618 = v3 by rw [hv618, hF259 141 6 (by omega), eσ578, dk_up_n (show ¬ (141 = 141 ∧ 6 = 7) by omega), hv573]).symm
                            subst hq618
                            clear htv618 hbv618
                            obtain ⟨v619, hv619⟩ : ∃ z : Int, z = v579 - v3 := ⟨_, rfl⟩
                            refine dk_isub (pc' := 332) hE dX11_next_331 hv619.symm (by omega) rfl ?_
                            refine dk_iconst (pc' := 333) hE dX11_next_332 (by decide) rfl ?_
                            refine dk_icmp_gt (tgt := 350) (pc' := 336) hE dX11_next_333 (by decide) rfl (fun hc620 => ?_) (fun hc620 => ?_)
                            · skip
                              refine dk_iconst (pc' := 351) hE dX11_next_350 (by decide) rfl ?_
                              refine dk_goto (tgt := 355) hE dX11_next_351 (by decide) ?_
                              refine pf_11_8 (pc' := 358) hE fl_X11_222 dX11_next_355 is_141 (by omega) rfl (fun σ621 eσ621 => ?_)
                              refine dk_goto (tgt := 377) hE dX11_next_358 (by decide) ?_
                              have hz622 : σ621 141 3 = v4 := by rw [eσ621, dk_up_n (show ¬ (141 = 141 ∧ 3 = 8) by omega), hF259 141 3 (by omega), eσ578, dk_up_n (show ¬ (141 = 141 ∧ 3 = 7) by omega), eσ562, dk_up_n (show ¬ (141 = 141 ∧ 3 = 7) by omega), eσ560, dk_up_n (show ¬ (141 = 141 ∧ 3 = 9) by omega), hv435]
                              have hz623 : σ621 141 4 = σ 141 4 := by rw [eσ621, dk_up_n (show ¬ (141 = 141 ∧ 4 = 8) by omega), hF259 141 4 (by omega), eσ578, dk_up_n (show ¬ (141 = 141 ∧ 4 = 7) by omega), eσ562, dk_up_n (show ¬ (141 = 141 ∧ 4 = 7) by omega), eσ560, dk_up_n (show ¬ (141 = 141 ∧ 4 = 9) by omega), eσ433, dk_up_n (show ¬ (141 = 141 ∧ 4 = 7) by omega), hF8 141 4 (by omega), eσ2, dk_up_n (show ¬ (141 = 141 ∧ 4 = 6) by omega)]
                              have hz624 : σ621 141 6 = v3 := by rw [eσ621, dk_up_n (show ¬ (141 = 141 ∧ 6 = 8) by omega), hv618]
                              have hz625 : σ621 141 7 = v579 := by rw [eσ621, dk_up_n (show ¬ (141 = 141 ∧ 7 = 8) by omega), hv617]
                              have hz626 : σ621 141 8 = 1 := by rw [eσ621, dk_up_s]
                              exact dk_vret (st := []) hE hR dX11_next_377 ⟨rfl, (fun k_ j_ h_ => by rw [eσ621, dk_up_n (show ¬ (k_ = 141 ∧ j_ = 8) from fun q_ => h_ (Or.inr (Or.inr (Or.inl (q_))))), hF259 k_ j_ (fun w_ => h_ (w_.elim (fun x0_ => Or.inr (Or.inl (x0_))) (fun y0_ => Or.inr (Or.inr (Or.inr (Or.inl (y0_))))))), eσ578, dk_up_n (show ¬ (k_ = 141 ∧ j_ = 7) from fun q_ => h_ (Or.inr (Or.inl (q_)))), eσ562, dk_up_n (show ¬ (k_ = 141 ∧ j_ = 7) from fun q_ => h_ (Or.inr (Or.inl (q_)))), eσ560, dk_up_n (show ¬ (k_ = 141 ∧ j_ = 9) from fun q_ => h_ (Or.inr (Or.inr (Or.inr (Or.inl (q_)))))), eσ433, dk_up_n (show ¬ (k_ = 141 ∧ j_ = 7) from fun q_ => h_ (Or.inr (Or.inl (q_)))), hF8 k_ j_ (fun w_ => h_ (Or.inl (w_))), eσ2, dk_up_n (show ¬ (k_ = 141 ∧ j_ = 6) from fun q_ => h_ (Or.inl (q_)))]), NY_of (by omega) (by omega) (by omega) (by omega) (by omega)⟩
                            · skip
                              refine dk_aload_n (pc' := 337) hE dX11_next_336 rfl rfl rfl ?_
                              refine dk_aload_n (pc' := 338) hE dX11_next_337 rfl rfl rfl ?_
                              refine gf_11_7 (pc' := 341) hE fl_X11_212 dX11_next_338 is_141 rfl (fun v627 hv627 htv627 hbv627 => ?_)
                              have hq627 : v579 = v627 := (show v627 = v579 by rw [hv627, hv617]).symm
                              subst hq627
                              clear htv627 hbv627
                              refine dk_cV (pc' := 344) (as := [(0, v579)]) hE lk_X11_218 (ct_X11_sign l G hGd v579) dX11_next_341 rfl is_141 rfl (by decide) (Nat.le_of_ble_eq_true rfl) ⟨rfl, (by omega)⟩ rfl (fun r629 σ628 hr629 hor629 => ?_)
                              obtain ⟨v630, rfl, hfσ628, hpr629⟩ := hr629
                              have hsσ628 : σ259c = σ628 := (funext (fun k => funext (fun j => hfσ628 k j not_false))).symm
                              subst hsσ628
                              refine dk_cS (pc' := 347) (as := [(0, v630)]) hE lk_X11_225 (ct_X11_isLetter l G hGd v630) dX11_next_344 rfl rfl (by decide) (Nat.le_of_ble_eq_true rfl) rfl rfl (fun r632 σ631 hr632 hor632 => ?_)
                              obtain ⟨v633, rfl, hfσ631, hpr632⟩ := hr632
                              have hsσ631 : σ259c = σ631 := (funext (fun k => funext (fun j => hfσ631 k j not_false))).symm
                              subst hsσ631
                              rcases hpr632 with ⟨rfl, hpr632⟩ | ⟨rfl, hpr632⟩
                              · skip
                                refine dk_if_eq (tgt := 354) (pc' := 350) hE dX11_next_347 (by decide) rfl (fun hc634 => absurd hc634 (by decide)) (fun hc634 => ?_)
                                refine dk_iconst (pc' := 351) hE dX11_next_350 (by decide) rfl ?_
                                refine dk_goto (tgt := 355) hE dX11_next_351 (by decide) ?_
                                refine pf_11_8 (pc' := 358) hE fl_X11_222 dX11_next_355 is_141 (by omega) rfl (fun σ635 eσ635 => ?_)
                                refine dk_goto (tgt := 377) hE dX11_next_358 (by decide) ?_
                                have hz636 : σ635 141 3 = v4 := by rw [eσ635, dk_up_n (show ¬ (141 = 141 ∧ 3 = 8) by omega), hF259 141 3 (by omega), eσ578, dk_up_n (show ¬ (141 = 141 ∧ 3 = 7) by omega), eσ562, dk_up_n (show ¬ (141 = 141 ∧ 3 = 7) by omega), eσ560, dk_up_n (show ¬ (141 = 141 ∧ 3 = 9) by omega), hv435]
                                have hz637 : σ635 141 4 = σ 141 4 := by rw [eσ635, dk_up_n (show ¬ (141 = 141 ∧ 4 = 8) by omega), hF259 141 4 (by omega), eσ578, dk_up_n (show ¬ (141 = 141 ∧ 4 = 7) by omega), eσ562, dk_up_n (show ¬ (141 = 141 ∧ 4 = 7) by omega), eσ560, dk_up_n (show ¬ (141 = 141 ∧ 4 = 9) by omega), eσ433, dk_up_n (show ¬ (141 = 141 ∧ 4 = 7) by omega), hF8 141 4 (by omega), eσ2, dk_up_n (show ¬ (141 = 141 ∧ 4 = 6) by omega)]
                                have hz638 : σ635 141 6 = v3 := by rw [eσ635, dk_up_n (show ¬ (141 = 141 ∧ 6 = 8) by omega), hv618]
                                have hz639 : σ635 141 7 = v579 := by rw [eσ635, dk_up_n (show ¬ (141 = 141 ∧ 7 = 8) by omega), hv627]
                                have hz640 : σ635 141 8 = 1 := by rw [eσ635, dk_up_s]
                                exact dk_vret (st := []) hE hR dX11_next_377 ⟨rfl, (fun k_ j_ h_ => by rw [eσ635, dk_up_n (show ¬ (k_ = 141 ∧ j_ = 8) from fun q_ => h_ (Or.inr (Or.inr (Or.inl (q_))))), hF259 k_ j_ (fun w_ => h_ (w_.elim (fun x0_ => Or.inr (Or.inl (x0_))) (fun y0_ => Or.inr (Or.inr (Or.inr (Or.inl (y0_))))))), eσ578, dk_up_n (show ¬ (k_ = 141 ∧ j_ = 7) from fun q_ => h_ (Or.inr (Or.inl (q_)))), eσ562, dk_up_n (show ¬ (k_ = 141 ∧ j_ = 7) from fun q_ => h_ (Or.inr (Or.inl (q_)))), eσ560, dk_up_n (show ¬ (k_ = 141 ∧ j_ = 9) from fun q_ => h_ (Or.inr (Or.inr (Or.inr (Or.inl (q_)))))), eσ433, dk_up_n (show ¬ (k_ = 141 ∧ j_ = 7) from fun q_ => h_ (Or.inr (Or.inl (q_)))), hF8 k_ j_ (fun w_ => h_ (Or.inl (w_))), eσ2, dk_up_n (show ¬ (k_ = 141 ∧ j_ = 6) from fun q_ => h_ (Or.inl (q_)))]), NY_of (by omega) (by omega) (by omega) (by omega) (by omega)⟩
                              · skip
                                refine dk_if_eq (tgt := 354) (pc' := 350) hE dX11_next_347 (by decide) rfl (fun hc641 => ?_) (fun hc641 => absurd hc641 (by decide))
                                refine dk_iconst (pc' := 355) hE dX11_next_354 (by decide) rfl ?_
                                refine pf_11_8 (pc' := 358) hE fl_X11_222 dX11_next_355 is_141 (by omega) rfl (fun σ642 eσ642 => ?_)
                                refine dk_goto (tgt := 377) hE dX11_next_358 (by decide) ?_
                                have hz643 : σ642 141 3 = v4 := by rw [eσ642, dk_up_n (show ¬ (141 = 141 ∧ 3 = 8) by omega), hF259 141 3 (by omega), eσ578, dk_up_n (show ¬ (141 = 141 ∧ 3 = 7) by omega), eσ562, dk_up_n (show ¬ (141 = 141 ∧ 3 = 7) by omega), eσ560, dk_up_n (show ¬ (141 = 141 ∧ 3 = 9) by omega), hv435]
                                have hz644 : σ642 141 4 = σ 141 4 := by rw [eσ642, dk_up_n (show ¬ (141 = 141 ∧ 4 = 8) by omega), hF259 141 4 (by omega), eσ578, dk_up_n (show ¬ (141 = 141 ∧ 4 = 7) by omega), eσ562, dk_up_n (show ¬ (141 = 141 ∧ 4 = 7) by omega), eσ560, dk_up_n (show ¬ (141 = 141 ∧ 4 = 9) by omega), eσ433, dk_up_n (show ¬ (141 = 141 ∧ 4 = 7) by omega), hF8 141 4 (by omega), eσ2, dk_up_n (show ¬ (141 = 141 ∧ 4 = 6) by omega)]
                                have hz645 : σ642 141 6 = v3 := by rw [eσ642, dk_up_n (show ¬ (141 = 141 ∧ 6 = 8) by omega), hv618]
                                have hz646 : σ642 141 7 = v579 := by rw [eσ642, dk_up_n (show ¬ (141 = 141 ∧ 7 = 8) by omega), hv627]
                                have hz647 : σ642 141 8 = 4 := by rw [eσ642, dk_up_s]
                                exact dk_vret (st := []) hE hR dX11_next_377 ⟨rfl, (fun k_ j_ h_ => by rw [eσ642, dk_up_n (show ¬ (k_ = 141 ∧ j_ = 8) from fun q_ => h_ (Or.inr (Or.inr (Or.inl (q_))))), hF259 k_ j_ (fun w_ => h_ (w_.elim (fun x0_ => Or.inr (Or.inl (x0_))) (fun y0_ => Or.inr (Or.inr (Or.inr (Or.inl (y0_))))))), eσ578, dk_up_n (show ¬ (k_ = 141 ∧ j_ = 7) from fun q_ => h_ (Or.inr (Or.inl (q_)))), eσ562, dk_up_n (show ¬ (k_ = 141 ∧ j_ = 7) from fun q_ => h_ (Or.inr (Or.inl (q_)))), eσ560, dk_up_n (show ¬ (k_ = 141 ∧ j_ = 9) from fun q_ => h_ (Or.inr (Or.inr (Or.inr (Or.inl (q_)))))), eσ433, dk_up_n (show ¬ (k_ = 141 ∧ j_ = 7) from fun q_ => h_ (Or.inr (Or.inl (q_)))), hF8 k_ j_ (fun w_ => h_ (Or.inl (w_))), eσ2, dk_up_n (show ¬ (k_ = 141 ∧ j_ = 6) from fun q_ => h_ (Or.inl (q_)))]), NY_of (by omega) (by omega) (by omega) (by omega) (by omega)⟩
                      have hz648 : σ578 141 6 = v3 := by rw [eσ578, dk_up_n (show ¬ (141 = 141 ∧ 6 = 7) by omega), hv573]
                      have hz649 : σ578 141 7 = v577 := by rw [eσ578, dk_up_s]
                      have hz650 : σ578 141 7 = v577 := by rw [eσ578, dk_up_s]
                      have hz651 : σ578 141 6 = v3 := by rw [eσ578, dk_up_n (show ¬ (141 = 141 ∧ 6 = 7) by omega), hv573]
                      have hz652 : σ578 141 3 = v4 := by rw [eσ578, dk_up_n (show ¬ (141 = 141 ∧ 3 = 7) by omega), eσ562, dk_up_n (show ¬ (141 = 141 ∧ 3 = 7) by omega), eσ560, dk_up_n (show ¬ (141 = 141 ∧ 3 = 9) by omega), hv435]
                      have hz653 : σ578 141 4 = σ 141 4 := by rw [eσ578, dk_up_n (show ¬ (141 = 141 ∧ 4 = 7) by omega), eσ562, dk_up_n (show ¬ (141 = 141 ∧ 4 = 7) by omega), eσ560, dk_up_n (show ¬ (141 = 141 ∧ 4 = 9) by omega), eσ433, dk_up_n (show ¬ (141 = 141 ∧ 4 = 7) by omega), hF8 141 4 (by omega), eσ2, dk_up_n (show ¬ (141 = 141 ∧ 4 = 6) by omega)]
                      have hz654 : σ578 141 7 = v577 := by rw [eσ578, dk_up_s]
                      have hz655 : σ578 141 6 = v3 := by rw [eσ578, dk_up_n (show ¬ (141 = 141 ∧ 6 = 7) by omega), hv573]
                      have hz656 : σ578 141 9 = 0 := by rw [eσ578, dk_up_n (show ¬ (141 = 141 ∧ 9 = 7) by omega), eσ562, dk_up_n (show ¬ (141 = 141 ∧ 9 = 7) by omega), eσ560, dk_up_s]
                      have hz657 : σ578 141 7 = v577 := by rw [eσ578, dk_up_s]
                      have hz658 : σ578 141 6 = v3 := by rw [eσ578, dk_up_n (show ¬ (141 = 141 ∧ 6 = 7) by omega), hv573]
                      have hz659 : σ578 141 9 = 0 := by rw [eσ578, dk_up_n (show ¬ (141 = 141 ∧ 9 = 7) by omega), eσ562, dk_up_n (show ¬ (141 = 141 ∧ 9 = 7) by omega), eσ560, dk_up_s]
                      have hz660 : σ578 141 7 = v577 := by rw [eσ578, dk_up_s]
                      have hz661 : σ578 141 6 = v3 := by rw [eσ578, dk_up_n (show ¬ (141 = 141 ∧ 6 = 7) by omega), hv573]
                      have hz662 : σ578 141 9 = 0 := by rw [eσ578, dk_up_n (show ¬ (141 = 141 ∧ 9 = 7) by omega), eσ562, dk_up_n (show ¬ (141 = 141 ∧ 9 = 7) by omega), eσ560, dk_up_s]
                      have hz663 : σ578 141 7 = v577 := by rw [eσ578, dk_up_s]
                      have hz664 : σ578 141 6 = v3 := by rw [eσ578, dk_up_n (show ¬ (141 = 141 ∧ 6 = 7) by omega), hv573]
                      have hz665 : σ578 141 7 = v577 := by rw [eσ578, dk_up_s]
                      have hz666_141_7 : σ578 141 7 = v577 := by rw [eσ578, dk_up_s]
                      have hz669_141_9 : σ578 141 9 = 0 := by rw [eσ578, dk_up_n (show ¬ (141 = 141 ∧ 9 = 7) by omega), eσ562, dk_up_n (show ¬ (141 = 141 ∧ 9 = 7) by omega), eσ560, dk_up_s]
                      exact lp259 _ σ578 (Nat.lt_succ_self _) (fun k_ j_ h_ => rfl) (by omega) (by omega) (by omega)
                    · skip
                      refine dk_aload_n (pc' := 287) hE dX11_next_286 rfl rfl rfl ?_
                      refine dk_bipush (pc' := 289) hE dX11_next_287 (by decide) rfl ?_
                      refine dk_aload_n (pc' := 290) hE dX11_next_289 rfl rfl rfl ?_
                      refine gf_11_9 (pc' := 293) hE fl_X11_240 dX11_next_290 is_141 rfl (fun v671 hv671 htv671 hbv671 => ?_)
                      have hq671 : 0 = v671 := (show v671 = 0 by rw [hv671, eσ562, dk_up_n (show ¬ (141 = 141 ∧ 9 = 7) by omega), eσ560, dk_up_s]).symm
                      subst hq671
                      clear htv671 hbv671
                      refine dk_imul (pc' := 294) hE dX11_next_293 (z := 0) (by decide) (by decide) rfl ?_
                      refine dk_aload_n (pc' := 295) hE dX11_next_294 rfl rfl rfl ?_
                      refine dk_aload_n (pc' := 296) hE dX11_next_295 rfl rfl rfl ?_
                      refine gf_11_7 (pc' := 299) hE fl_X11_212 dX11_next_296 is_141 rfl (fun v672 hv672 htv672 hbv672 => ?_)
                      have hq672 : v3 = v672 := (show v672 = v3 by rw [hv672, hv572]).symm
                      subst hq672
                      clear htv672 hbv672
                      refine dk_cV (pc' := 302) (as := [(0, v3)]) hE lk_X11_218 (ct_X11_sign l G hGd v3) dX11_next_299 rfl is_141 rfl (by decide) (Nat.le_of_ble_eq_true rfl) ⟨rfl, (by omega)⟩ rfl (fun r674 σ673 hr674 hor674 => ?_)
                      obtain ⟨v675, rfl, hfσ673, hpr674⟩ := hr674
                      have hsσ673 : σ562 = σ673 := (funext (fun k => funext (fun j => hfσ673 k j not_false))).symm
                      subst hsσ673
                      obtain ⟨v676, hv676⟩ : ∃ z : Int, z = 0 + v675 := ⟨_, rfl⟩
                      refine dk_iadd (pc' := 303) hE dX11_next_302 hv676.symm (by omega) rfl ?_
                      refine dk_bipush (pc' := 305) hE dX11_next_303 (by decide) rfl ?_
                      obtain ⟨v677, hv677⟩ : ∃ z : Int, z = v676 - 48 := ⟨_, rfl⟩
                      refine dk_isub (pc' := 306) hE dX11_next_305 hv677.symm (by omega) rfl ?_
                      refine pf_11_9 (pc' := 309) hE fl_X11_240 dX11_next_306 is_141 (by omega) rfl (fun σ678 eσ678 => ?_)
                      refine dk_aload_n (pc' := 310) hE dX11_next_309 rfl rfl rfl ?_
                      refine dk_dup (pc' := 311) hE dX11_next_310 (show (4 : Nat) ≠ 3 by decide) rfl ?_
                      refine gf_11_7 (pc' := 314) hE fl_X11_212 dX11_next_311 is_141 rfl (fun v679 hv679 htv679 hbv679 => ?_)
                      have hq679 : v3 = v679 := (show v679 = v3 by rw [hv679, eσ678, dk_up_n (show ¬ (141 = 141 ∧ 7 = 9) by omega), hv672]).symm
                      subst hq679
                      clear htv679 hbv679
                      refine dk_iconst (pc' := 315) hE dX11_next_314 (by decide) rfl ?_
                      obtain ⟨v680, hv680⟩ : ∃ z : Int, z = v3 + 1 := ⟨_, rfl⟩
                      refine dk_iadd (pc' := 316) hE dX11_next_315 hv680.symm (by omega) rfl ?_
                      refine pf_11_7 (pc' := 319) hE fl_X11_212 dX11_next_316 is_141 (by omega) rfl (fun σ681 eσ681 => ?_)
                      refine dk_goto (tgt := 259) hE dX11_next_319 (by decide) ?_
                      have lp259 : ∀ (N_ : Nat) (σ259c : dkS), (1402 - σ259c 141 7).toNat < N_ → ((∀ k_ j_ : Int, ¬ ((k_ = 141 ∧ j_ = 7) ∨ (k_ = 141 ∧ j_ = 9)) → σ259c k_ j_ = σ681 k_ j_)) → (σ259c 141 6 < σ259c 141 7 ∧ σ259c 141 7 ≤ σ 141 3 ∧ σ 141 7 ≤ σ259c 141 6) → (σ259c 141 3 = σ 141 3 ∧ σ259c 141 4 = σ 141 4) → ((σ259c 141 7 - σ259c 141 6 = 1 ∧ σ259c 141 9 ≤ 9) ∨ (σ259c 141 7 - σ259c 141 6 = 2 ∧ σ259c 141 9 ≤ 99) ∨ (σ259c 141 7 - σ259c 141 6 = 3 ∧ σ259c 141 9 ≤ 999) ∨ 4 ≤ σ259c 141 7 - σ259c 141 6) → dk_PJ E 259 [(4, 141), (0, v430), (9, 0)] [] 190 σ259c := by
                        intro N259
                        induction N259 with
                        | zero => intro  σ259c hm; exact absurd hm (Nat.not_lt_zero _)
                        | succ N259 ih259 =>
                          intro  σ259c hm259 hF259 hd hs6 hn
                          refine dk_aload_n (pc' := 260) hE dX11_next_259 rfl rfl rfl ?_
                          refine dk_aload_n (pc' := 261) hE dX11_next_260 rfl rfl rfl ?_
                          refine gf_11_7 (pc' := 264) hE fl_X11_212 dX11_next_261 is_141 rfl (fun v682 hv682 htv682 hbv682 => ?_)
                          refine dk_cV (pc' := 267) (as := [(0, v682)]) hE lk_X11_218 (ct_X11_sign l G hGd v682) dX11_next_264 rfl is_141 rfl (by decide) (Nat.le_of_ble_eq_true rfl) ⟨rfl, (by omega)⟩ rfl (fun r684 σ683 hr684 hor684 => ?_)
                          obtain ⟨v685, rfl, hfσ683, hpr684⟩ := hr684
                          have hsσ683 : σ259c = σ683 := (funext (fun k => funext (fun j => hfσ683 k j not_false))).symm
                          subst hsσ683
                          refine dk_cS (pc' := 270) (as := [(0, v685)]) hE lk_X11_237 (ct_X11_isDigit l G hGd v685) dX11_next_267 rfl rfl (by decide) (Nat.le_of_ble_eq_true rfl) rfl rfl (fun r687 σ686 hr687 hor687 => ?_)
                          obtain ⟨v688, rfl, hfσ686, hpr687⟩ := hr687
                          have hsσ686 : σ259c = σ686 := (funext (fun k => funext (fun j => hfσ686 k j not_false))).symm
                          subst hsσ686
                          rcases hpr687 with ⟨rfl, hpr687⟩ | ⟨rfl, hpr687⟩
                          · skip
                            refine dk_if_eq (tgt := 322) (pc' := 273) hE dX11_next_270 (by decide) rfl (fun hc689 => absurd hc689 (by decide)) (fun hc689 => ?_)
                            refine dk_aload_n (pc' := 274) hE dX11_next_273 rfl rfl rfl ?_
                            refine gf_11_7 (pc' := 277) hE fl_X11_212 dX11_next_274 is_141 rfl (fun v690 hv690 htv690 hbv690 => ?_)
                            have hq690 : v682 = v690 := (show v690 = v682 by rw [hv690, hv682]).symm
                            subst hq690
                            clear htv690 hbv690
                            refine dk_aload_n (pc' := 278) hE dX11_next_277 rfl rfl rfl ?_
                            refine gf_11_6 (pc' := 281) hE fl_X11_215 dX11_next_278 is_141 rfl (fun v691 hv691 htv691 hbv691 => ?_)
                            have hq691 : v3 = v691 := (show v691 = v3 by rw [hv691, hF259 141 6 (by omega), eσ681, dk_up_n (show ¬ (141 = 141 ∧ 6 = 7) by omega), eσ678, dk_up_n (show ¬ (141 = 141 ∧ 6 = 9) by omega), hv573]).symm
                            subst hq691
                            clear htv691 hbv691
                            obtain ⟨v692, hv692⟩ : ∃ z : Int, z = v682 - v3 := ⟨_, rfl⟩
                            refine dk_isub (pc' := 282) hE dX11_next_281 hv692.symm (by omega) rfl ?_
                            refine dk_iconst (pc' := 283) hE dX11_next_282 (by decide) rfl ?_
                            refine dk_icmp_ge (tgt := 309) (pc' := 286) hE dX11_next_283 (by decide) rfl (fun hc693 => ?_) (fun hc693 => ?_)
                            · skip
                              refine dk_aload_n (pc' := 310) hE dX11_next_309 rfl rfl rfl ?_
                              refine dk_dup (pc' := 311) hE dX11_next_310 (show (4 : Nat) ≠ 3 by decide) rfl ?_
                              refine gf_11_7 (pc' := 314) hE fl_X11_212 dX11_next_311 is_141 rfl (fun v694 hv694 htv694 hbv694 => ?_)
                              have hq694 : v682 = v694 := (show v694 = v682 by rw [hv694, hv690]).symm
                              subst hq694
                              clear htv694 hbv694
                              refine dk_iconst (pc' := 315) hE dX11_next_314 (by decide) rfl ?_
                              obtain ⟨v695, hv695⟩ : ∃ z : Int, z = v682 + 1 := ⟨_, rfl⟩
                              refine dk_iadd (pc' := 316) hE dX11_next_315 hv695.symm (by omega) rfl ?_
                              refine pf_11_7 (pc' := 319) hE fl_X11_212 dX11_next_316 is_141 (by omega) rfl (fun σ696 eσ696 => ?_)
                              refine dk_goto (tgt := 259) hE dX11_next_319 (by decide) ?_
                              have hz696_141_6 := (show σ696 141 6 = _ by rw [eσ696, dk_up_n (show ¬ (141 = 141 ∧ 6 = 7) by omega)])
                              have hz697_141_7 : σ696 141 7 = v695 := by rw [eσ696, dk_up_s]
                              have hz698_141_3 := (show σ696 141 3 = _ by rw [eσ696, dk_up_n (show ¬ (141 = 141 ∧ 3 = 7) by omega)])
                              have hz699_141_4 := (show σ696 141 4 = _ by rw [eσ696, dk_up_n (show ¬ (141 = 141 ∧ 4 = 7) by omega)])
                              have hz700_141_9 := (show σ696 141 9 = _ by rw [eσ696, dk_up_n (show ¬ (141 = 141 ∧ 9 = 7) by omega)])
                              exact ih259 σ696 (by omega) (fun k_ j_ h_ => by rw [eσ696, dk_up_n (show ¬ (k_ = 141 ∧ j_ = 7) from fun q_ => h_ (Or.inl (q_))), hF259 k_ j_ (fun w_ => h_ (w_.elim (fun x0_ => Or.inl (x0_)) (fun y0_ => Or.inr (y0_))))]) (by omega) (by omega) (by omega)
                            · skip
                              refine dk_aload_n (pc' := 287) hE dX11_next_286 rfl rfl rfl ?_
                              refine dk_bipush (pc' := 289) hE dX11_next_287 (by decide) rfl ?_
                              refine dk_aload_n (pc' := 290) hE dX11_next_289 rfl rfl rfl ?_
                              refine gf_11_9 (pc' := 293) hE fl_X11_240 dX11_next_290 is_141 rfl (fun v702 hv702 htv702 hbv702 => ?_)
                              obtain ⟨v703, hv703⟩ : ∃ z : Int, z = 10 * v702 := ⟨_, rfl⟩
                              refine dk_imul (pc' := 294) hE dX11_next_293 hv703.symm (by omega) rfl ?_
                              refine dk_aload_n (pc' := 295) hE dX11_next_294 rfl rfl rfl ?_
                              refine dk_aload_n (pc' := 296) hE dX11_next_295 rfl rfl rfl ?_
                              refine gf_11_7 (pc' := 299) hE fl_X11_212 dX11_next_296 is_141 rfl (fun v704 hv704 htv704 hbv704 => ?_)
                              have hq704 : v682 = v704 := (show v704 = v682 by rw [hv704, hv690]).symm
                              subst hq704
                              clear htv704 hbv704
                              refine dk_cV (pc' := 302) (as := [(0, v682)]) hE lk_X11_218 (ct_X11_sign l G hGd v682) dX11_next_299 rfl is_141 rfl (by decide) (Nat.le_of_ble_eq_true rfl) ⟨rfl, (by omega)⟩ rfl (fun r706 σ705 hr706 hor706 => ?_)
                              obtain ⟨v707, rfl, hfσ705, hpr706⟩ := hr706
                              have hsσ705 : σ259c = σ705 := (funext (fun k => funext (fun j => hfσ705 k j not_false))).symm
                              subst hsσ705
                              obtain ⟨v708, hv708⟩ : ∃ z : Int, z = v703 + v707 := ⟨_, rfl⟩
                              refine dk_iadd (pc' := 303) hE dX11_next_302 hv708.symm (by omega) rfl ?_
                              refine dk_bipush (pc' := 305) hE dX11_next_303 (by decide) rfl ?_
                              obtain ⟨v709, hv709⟩ : ∃ z : Int, z = v708 - 48 := ⟨_, rfl⟩
                              refine dk_isub (pc' := 306) hE dX11_next_305 hv709.symm (by omega) rfl ?_
                              refine pf_11_9 (pc' := 309) hE fl_X11_240 dX11_next_306 is_141 (by omega) rfl (fun σ710 eσ710 => ?_)
                              refine dk_aload_n (pc' := 310) hE dX11_next_309 rfl rfl rfl ?_
                              refine dk_dup (pc' := 311) hE dX11_next_310 (show (4 : Nat) ≠ 3 by decide) rfl ?_
                              refine gf_11_7 (pc' := 314) hE fl_X11_212 dX11_next_311 is_141 rfl (fun v711 hv711 htv711 hbv711 => ?_)
                              have hq711 : v682 = v711 := (show v711 = v682 by rw [hv711, eσ710, dk_up_n (show ¬ (141 = 141 ∧ 7 = 9) by omega), hv704]).symm
                              subst hq711
                              clear htv711 hbv711
                              refine dk_iconst (pc' := 315) hE dX11_next_314 (by decide) rfl ?_
                              obtain ⟨v712, hv712⟩ : ∃ z : Int, z = v682 + 1 := ⟨_, rfl⟩
                              refine dk_iadd (pc' := 316) hE dX11_next_315 hv712.symm (by omega) rfl ?_
                              refine pf_11_7 (pc' := 319) hE fl_X11_212 dX11_next_316 is_141 (by omega) rfl (fun σ713 eσ713 => ?_)
                              refine dk_goto (tgt := 259) hE dX11_next_319 (by decide) ?_
                              have hz713_141_6 := (show σ713 141 6 = _ by rw [eσ713, dk_up_n (show ¬ (141 = 141 ∧ 6 = 7) by omega), eσ710, dk_up_n (show ¬ (141 = 141 ∧ 6 = 9) by omega)])
                              have hz714_141_7 : σ713 141 7 = v712 := by rw [eσ713, dk_up_s]
                              have hz715_141_3 := (show σ713 141 3 = _ by rw [eσ713, dk_up_n (show ¬ (141 = 141 ∧ 3 = 7) by omega), eσ710, dk_up_n (show ¬ (141 = 141 ∧ 3 = 9) by omega)])
                              have hz716_141_4 := (show σ713 141 4 = _ by rw [eσ713, dk_up_n (show ¬ (141 = 141 ∧ 4 = 7) by omega), eσ710, dk_up_n (show ¬ (141 = 141 ∧ 4 = 9) by omega)])
                              have hz717_141_9 : σ713 141 9 = v709 := by rw [eσ713, dk_up_n (show ¬ (141 = 141 ∧ 9 = 7) by omega), eσ710, dk_up_s]
                              exact ih259 σ713 (by omega) (fun k_ j_ h_ => by rw [eσ713, dk_up_n (show ¬ (k_ = 141 ∧ j_ = 7) from fun q_ => h_ (Or.inl (q_))), eσ710, dk_up_n (show ¬ (k_ = 141 ∧ j_ = 9) from fun q_ => h_ (Or.inr (q_))), hF259 k_ j_ (fun w_ => h_ (w_.elim (fun x0_ => Or.inl (x0_)) (fun y0_ => Or.inr (y0_))))]) (by omega) (by omega) (by omega)
                          · skip
                            refine dk_if_eq (tgt := 322) (pc' := 273) hE dX11_next_270 (by decide) rfl (fun hc719 => ?_) (fun hc719 => absurd hc719 (by decide))
                            refine dk_aload_n (pc' := 323) hE dX11_next_322 rfl rfl rfl ?_
                            refine dk_aload_n (pc' := 324) hE dX11_next_323 rfl rfl rfl ?_
                            refine gf_11_7 (pc' := 327) hE fl_X11_212 dX11_next_324 is_141 rfl (fun v720 hv720 htv720 hbv720 => ?_)
                            have hq720 : v682 = v720 := (show v720 = v682 by rw [hv720, hv682]).symm
                            subst hq720
                            clear htv720 hbv720
                            refine dk_aload_n (pc' := 328) hE dX11_next_327 rfl rfl rfl ?_
                            refine gf_11_6 (pc' := 331) hE fl_X11_215 dX11_next_328 is_141 rfl (fun v721 hv721 htv721 hbv721 => ?_)
                            have hq721 : v3 = v721 := (show v721 = v3 by rw [hv721, hF259 141 6 (by omega), eσ681, dk_up_n (show ¬ (141 = 141 ∧ 6 = 7) by omega), eσ678, dk_up_n (show ¬ (141 = 141 ∧ 6 = 9) by omega), hv573]).symm
                            subst hq721
                            clear htv721 hbv721
                            obtain ⟨v722, hv722⟩ : ∃ z : Int, z = v682 - v3 := ⟨_, rfl⟩
                            refine dk_isub (pc' := 332) hE dX11_next_331 hv722.symm (by omega) rfl ?_
                            refine dk_iconst (pc' := 333) hE dX11_next_332 (by decide) rfl ?_
                            refine dk_icmp_gt (tgt := 350) (pc' := 336) hE dX11_next_333 (by decide) rfl (fun hc723 => ?_) (fun hc723 => ?_)
                            · skip
                              refine dk_iconst (pc' := 351) hE dX11_next_350 (by decide) rfl ?_
                              refine dk_goto (tgt := 355) hE dX11_next_351 (by decide) ?_
                              refine pf_11_8 (pc' := 358) hE fl_X11_222 dX11_next_355 is_141 (by omega) rfl (fun σ724 eσ724 => ?_)
                              refine dk_goto (tgt := 377) hE dX11_next_358 (by decide) ?_
                              have hz725 : σ724 141 3 = v4 := by rw [eσ724, dk_up_n (show ¬ (141 = 141 ∧ 3 = 8) by omega), hF259 141 3 (by omega), eσ681, dk_up_n (show ¬ (141 = 141 ∧ 3 = 7) by omega), eσ678, dk_up_n (show ¬ (141 = 141 ∧ 3 = 9) by omega), eσ562, dk_up_n (show ¬ (141 = 141 ∧ 3 = 7) by omega), eσ560, dk_up_n (show ¬ (141 = 141 ∧ 3 = 9) by omega), hv435]
                              have hz726 : σ724 141 4 = σ 141 4 := by rw [eσ724, dk_up_n (show ¬ (141 = 141 ∧ 4 = 8) by omega), hF259 141 4 (by omega), eσ681, dk_up_n (show ¬ (141 = 141 ∧ 4 = 7) by omega), eσ678, dk_up_n (show ¬ (141 = 141 ∧ 4 = 9) by omega), eσ562, dk_up_n (show ¬ (141 = 141 ∧ 4 = 7) by omega), eσ560, dk_up_n (show ¬ (141 = 141 ∧ 4 = 9) by omega), eσ433, dk_up_n (show ¬ (141 = 141 ∧ 4 = 7) by omega), hF8 141 4 (by omega), eσ2, dk_up_n (show ¬ (141 = 141 ∧ 4 = 6) by omega)]
                              have hz727 : σ724 141 6 = v3 := by rw [eσ724, dk_up_n (show ¬ (141 = 141 ∧ 6 = 8) by omega), hv721]
                              have hz728 : σ724 141 7 = v682 := by rw [eσ724, dk_up_n (show ¬ (141 = 141 ∧ 7 = 8) by omega), hv720]
                              have hz729 : σ724 141 8 = 1 := by rw [eσ724, dk_up_s]
                              exact dk_vret (st := []) hE hR dX11_next_377 ⟨rfl, (fun k_ j_ h_ => by rw [eσ724, dk_up_n (show ¬ (k_ = 141 ∧ j_ = 8) from fun q_ => h_ (Or.inr (Or.inr (Or.inl (q_))))), hF259 k_ j_ (fun w_ => h_ (w_.elim (fun x0_ => Or.inr (Or.inl (x0_))) (fun y0_ => Or.inr (Or.inr (Or.inr (Or.inl (y0_))))))), eσ681, dk_up_n (show ¬ (k_ = 141 ∧ j_ = 7) from fun q_ => h_ (Or.inr (Or.inl (q_)))), eσ678, dk_up_n (show ¬ (k_ = 141 ∧ j_ = 9) from fun q_ => h_ (Or.inr (Or.inr (Or.inr (Or.inl (q_)))))), eσ562, dk_up_n (show ¬ (k_ = 141 ∧ j_ = 7) from fun q_ => h_ (Or.inr (Or.inl (q_)))), eσ560, dk_up_n (show ¬ (k_ = 141 ∧ j_ = 9) from fun q_ => h_ (Or.inr (Or.inr (Or.inr (Or.inl (q_)))))), eσ433, dk_up_n (show ¬ (k_ = 141 ∧ j_ = 7) from fun q_ => h_ (Or.inr (Or.inl (q_)))), hF8 k_ j_ (fun w_ => h_ (Or.inl (w_))), eσ2, dk_up_n (show ¬ (k_ = 141 ∧ j_ = 6) from fun q_ => h_ (Or.inl (q_)))]), NY_of (by omega) (by omega) (by omega) (by omega) (by omega)⟩
                            · skip
                              refine dk_aload_n (pc' := 337) hE dX11_next_336 rfl rfl rfl ?_
                              refine dk_aload_n (pc' := 338) hE dX11_next_337 rfl rfl rfl ?_
                              refine gf_11_7 (pc' := 341) hE fl_X11_212 dX11_next_338 is_141 rfl (fun v730 hv730 htv730 hbv730 => ?_)
                              have hq730 : v682 = v730 := (show v730 = v682 by rw [hv730, hv720]).symm
                              subst hq730
                              clear htv730 hbv730
                              refine dk_cV (pc' := 344) (as := [(0, v682)]) hE lk_X11_218 (ct_X11_sign l G hGd v682) dX11_next_341 rfl is_141 rfl (by decide) (Nat.le_of_ble_eq_true rfl) ⟨rfl, (by omega)⟩ rfl (fun r732 σ731 hr732 hor732 => ?_)
                              obtain ⟨v733, rfl, hfσ731, hpr732⟩ := hr732
                              have hsσ731 : σ259c = σ731 := (funext (fun k => funext (fun j => hfσ731 k j not_false))).symm
                              subst hsσ731
                              refine dk_cS (pc' := 347) (as := [(0, v733)]) hE lk_X11_225 (ct_X11_isLetter l G hGd v733) dX11_next_344 rfl rfl (by decide) (Nat.le_of_ble_eq_true rfl) rfl rfl (fun r735 σ734 hr735 hor735 => ?_)
                              obtain ⟨v736, rfl, hfσ734, hpr735⟩ := hr735
                              have hsσ734 : σ259c = σ734 := (funext (fun k => funext (fun j => hfσ734 k j not_false))).symm
                              subst hsσ734
                              rcases hpr735 with ⟨rfl, hpr735⟩ | ⟨rfl, hpr735⟩
                              · skip
                                refine dk_if_eq (tgt := 354) (pc' := 350) hE dX11_next_347 (by decide) rfl (fun hc737 => absurd hc737 (by decide)) (fun hc737 => ?_)
                                refine dk_iconst (pc' := 351) hE dX11_next_350 (by decide) rfl ?_
                                refine dk_goto (tgt := 355) hE dX11_next_351 (by decide) ?_
                                refine pf_11_8 (pc' := 358) hE fl_X11_222 dX11_next_355 is_141 (by omega) rfl (fun σ738 eσ738 => ?_)
                                refine dk_goto (tgt := 377) hE dX11_next_358 (by decide) ?_
                                have hz739 : σ738 141 3 = v4 := by rw [eσ738, dk_up_n (show ¬ (141 = 141 ∧ 3 = 8) by omega), hF259 141 3 (by omega), eσ681, dk_up_n (show ¬ (141 = 141 ∧ 3 = 7) by omega), eσ678, dk_up_n (show ¬ (141 = 141 ∧ 3 = 9) by omega), eσ562, dk_up_n (show ¬ (141 = 141 ∧ 3 = 7) by omega), eσ560, dk_up_n (show ¬ (141 = 141 ∧ 3 = 9) by omega), hv435]
                                have hz740 : σ738 141 4 = σ 141 4 := by rw [eσ738, dk_up_n (show ¬ (141 = 141 ∧ 4 = 8) by omega), hF259 141 4 (by omega), eσ681, dk_up_n (show ¬ (141 = 141 ∧ 4 = 7) by omega), eσ678, dk_up_n (show ¬ (141 = 141 ∧ 4 = 9) by omega), eσ562, dk_up_n (show ¬ (141 = 141 ∧ 4 = 7) by omega), eσ560, dk_up_n (show ¬ (141 = 141 ∧ 4 = 9) by omega), eσ433, dk_up_n (show ¬ (141 = 141 ∧ 4 = 7) by omega), hF8 141 4 (by omega), eσ2, dk_up_n (show ¬ (141 = 141 ∧ 4 = 6) by omega)]
                                have hz741 : σ738 141 6 = v3 := by rw [eσ738, dk_up_n (show ¬ (141 = 141 ∧ 6 = 8) by omega), hv721]
                                have hz742 : σ738 141 7 = v682 := by rw [eσ738, dk_up_n (show ¬ (141 = 141 ∧ 7 = 8) by omega), hv730]
                                have hz743 : σ738 141 8 = 1 := by rw [eσ738, dk_up_s]
                                exact dk_vret (st := []) hE hR dX11_next_377 ⟨rfl, (fun k_ j_ h_ => by rw [eσ738, dk_up_n (show ¬ (k_ = 141 ∧ j_ = 8) from fun q_ => h_ (Or.inr (Or.inr (Or.inl (q_))))), hF259 k_ j_ (fun w_ => h_ (w_.elim (fun x0_ => Or.inr (Or.inl (x0_))) (fun y0_ => Or.inr (Or.inr (Or.inr (Or.inl (y0_))))))), eσ681, dk_up_n (show ¬ (k_ = 141 ∧ j_ = 7) from fun q_ => h_ (Or.inr (Or.inl (q_)))), eσ678, dk_up_n (show ¬ (k_ = 141 ∧ j_ = 9) from fun q_ => h_ (Or.inr (Or.inr (Or.inr (Or.inl (q_)))))), eσ562, dk_up_n (show ¬ (k_ = 141 ∧ j_ = 7) from fun q_ => h_ (Or.inr (Or.inl (q_)))), eσ560, dk_up_n (show ¬ (k_ = 141 ∧ j_ = 9) from fun q_ => h_ (Or.inr (Or.inr (Or.inr (Or.inl (q_)))))), eσ433, dk_up_n (show ¬ (k_ = 141 ∧ j_ = 7) from fun q_ => h_ (Or.inr (Or.inl (q_)))), hF8 k_ j_ (fun w_ => h_ (Or.inl (w_))), eσ2, dk_up_n (show ¬ (k_ = 141 ∧ j_ = 6) from fun q_ => h_ (Or.inl (q_)))]), NY_of (by omega) (by omega) (by omega) (by omega) (by omega)⟩
                              · skip
                                refine dk_if_eq (tgt := 354) (pc' := 350) hE dX11_next_347 (by decide) rfl (fun hc744 => ?_) (fun hc744 => absurd hc744 (by decide))
                                refine dk_iconst (pc' := 355) hE dX11_next_354 (by decide) rfl ?_
                                refine pf_11_8 (pc' := 358) hE fl_X11_222 dX11_next_355 is_141 (by omega) rfl (fun σ745 eσ745 => ?_)
                                refine dk_goto (tgt := 377) hE dX11_next_358 (by decide) ?_
                                have hz746 : σ745 141 3 = v4 := by rw [eσ745, dk_up_n (show ¬ (141 = 141 ∧ 3 = 8) by omega), hF259 141 3 (by omega), eσ681, dk_up_n (show ¬ (141 = 141 ∧ 3 = 7) by omega), eσ678, dk_up_n (show ¬ (141 = 141 ∧ 3 = 9) by omega), eσ562, dk_up_n (show ¬ (141 = 141 ∧ 3 = 7) by omega), eσ560, dk_up_n (show ¬ (141 = 141 ∧ 3 = 9) by omega), hv435]
                                have hz747 : σ745 141 4 = σ 141 4 := by rw [eσ745, dk_up_n (show ¬ (141 = 141 ∧ 4 = 8) by omega), hF259 141 4 (by omega), eσ681, dk_up_n (show ¬ (141 = 141 ∧ 4 = 7) by omega), eσ678, dk_up_n (show ¬ (141 = 141 ∧ 4 = 9) by omega), eσ562, dk_up_n (show ¬ (141 = 141 ∧ 4 = 7) by omega), eσ560, dk_up_n (show ¬ (141 = 141 ∧ 4 = 9) by omega), eσ433, dk_up_n (show ¬ (141 = 141 ∧ 4 = 7) by omega), hF8 141 4 (by omega), eσ2, dk_up_n (show ¬ (141 = 141 ∧ 4 = 6) by omega)]
                                have hz748 : σ745 141 6 = v3 := by rw [eσ745, dk_up_n (show ¬ (141 = 141 ∧ 6 = 8) by omega), hv721]
                                have hz749 : σ745 141 7 = v682 := by rw [eσ745, dk_up_n (show ¬ (141 = 141 ∧ 7 = 8) by omega), hv730]
                                have hz750 : σ745 141 8 = 4 := by rw [eσ745, dk_up_s]
                                exact dk_vret (st := []) hE hR dX11_next_377 ⟨rfl, (fun k_ j_ h_ => by rw [eσ745, dk_up_n (show ¬ (k_ = 141 ∧ j_ = 8) from fun q_ => h_ (Or.inr (Or.inr (Or.inl (q_))))), hF259 k_ j_ (fun w_ => h_ (w_.elim (fun x0_ => Or.inr (Or.inl (x0_))) (fun y0_ => Or.inr (Or.inr (Or.inr (Or.inl (y0_))))))), eσ681, dk_up_n (show ¬ (k_ = 141 ∧ j_ = 7) from fun q_ => h_ (Or.inr (Or.inl (q_)))), eσ678, dk_up_n (show ¬ (k_ = 141 ∧ j_ = 9) from fun q_ => h_ (Or.inr (Or.inr (Or.inr (Or.inl (q_)))))), eσ562, dk_up_n (show ¬ (k_ = 141 ∧ j_ = 7) from fun q_ => h_ (Or.inr (Or.inl (q_)))), eσ560, dk_up_n (show ¬ (k_ = 141 ∧ j_ = 9) from fun q_ => h_ (Or.inr (Or.inr (Or.inr (Or.inl (q_)))))), eσ433, dk_up_n (show ¬ (k_ = 141 ∧ j_ = 7) from fun q_ => h_ (Or.inr (Or.inl (q_)))), hF8 k_ j_ (fun w_ => h_ (Or.inl (w_))), eσ2, dk_up_n (show ¬ (k_ = 141 ∧ j_ = 6) from fun q_ => h_ (Or.inl (q_)))]), NY_of (by omega) (by omega) (by omega) (by omega) (by omega)⟩
                      have hz751 : σ681 141 6 = v3 := by rw [eσ681, dk_up_n (show ¬ (141 = 141 ∧ 6 = 7) by omega), eσ678, dk_up_n (show ¬ (141 = 141 ∧ 6 = 9) by omega), hv573]
                      have hz752 : σ681 141 7 = v680 := by rw [eσ681, dk_up_s]
                      have hz753 : σ681 141 7 = v680 := by rw [eσ681, dk_up_s]
                      have hz754 : σ681 141 6 = v3 := by rw [eσ681, dk_up_n (show ¬ (141 = 141 ∧ 6 = 7) by omega), eσ678, dk_up_n (show ¬ (141 = 141 ∧ 6 = 9) by omega), hv573]
                      have hz755 : σ681 141 3 = v4 := by rw [eσ681, dk_up_n (show ¬ (141 = 141 ∧ 3 = 7) by omega), eσ678, dk_up_n (show ¬ (141 = 141 ∧ 3 = 9) by omega), eσ562, dk_up_n (show ¬ (141 = 141 ∧ 3 = 7) by omega), eσ560, dk_up_n (show ¬ (141 = 141 ∧ 3 = 9) by omega), hv435]
                      have hz756 : σ681 141 4 = σ 141 4 := by rw [eσ681, dk_up_n (show ¬ (141 = 141 ∧ 4 = 7) by omega), eσ678, dk_up_n (show ¬ (141 = 141 ∧ 4 = 9) by omega), eσ562, dk_up_n (show ¬ (141 = 141 ∧ 4 = 7) by omega), eσ560, dk_up_n (show ¬ (141 = 141 ∧ 4 = 9) by omega), eσ433, dk_up_n (show ¬ (141 = 141 ∧ 4 = 7) by omega), hF8 141 4 (by omega), eσ2, dk_up_n (show ¬ (141 = 141 ∧ 4 = 6) by omega)]
                      have hz757 : σ681 141 7 = v680 := by rw [eσ681, dk_up_s]
                      have hz758 : σ681 141 6 = v3 := by rw [eσ681, dk_up_n (show ¬ (141 = 141 ∧ 6 = 7) by omega), eσ678, dk_up_n (show ¬ (141 = 141 ∧ 6 = 9) by omega), hv573]
                      have hz759 : σ681 141 9 = v677 := by rw [eσ681, dk_up_n (show ¬ (141 = 141 ∧ 9 = 7) by omega), eσ678, dk_up_s]
                      have hz760 : σ681 141 7 = v680 := by rw [eσ681, dk_up_s]
                      have hz761 : σ681 141 6 = v3 := by rw [eσ681, dk_up_n (show ¬ (141 = 141 ∧ 6 = 7) by omega), eσ678, dk_up_n (show ¬ (141 = 141 ∧ 6 = 9) by omega), hv573]
                      have hz762 : σ681 141 9 = v677 := by rw [eσ681, dk_up_n (show ¬ (141 = 141 ∧ 9 = 7) by omega), eσ678, dk_up_s]
                      have hz763 : σ681 141 7 = v680 := by rw [eσ681, dk_up_s]
                      have hz764 : σ681 141 6 = v3 := by rw [eσ681, dk_up_n (show ¬ (141 = 141 ∧ 6 = 7) by omega), eσ678, dk_up_n (show ¬ (141 = 141 ∧ 6 = 9) by omega), hv573]
                      have hz765 : σ681 141 9 = v677 := by rw [eσ681, dk_up_n (show ¬ (141 = 141 ∧ 9 = 7) by omega), eσ678, dk_up_s]
                      have hz766 : σ681 141 7 = v680 := by rw [eσ681, dk_up_s]
                      have hz767 : σ681 141 6 = v3 := by rw [eσ681, dk_up_n (show ¬ (141 = 141 ∧ 6 = 7) by omega), eσ678, dk_up_n (show ¬ (141 = 141 ∧ 6 = 9) by omega), hv573]
                      have hz768 : σ681 141 7 = v680 := by rw [eσ681, dk_up_s]
                      have hz769_141_7 : σ681 141 7 = v680 := by rw [eσ681, dk_up_s]
                      have hz772_141_9 : σ681 141 9 = v677 := by rw [eσ681, dk_up_n (show ¬ (141 = 141 ∧ 9 = 7) by omega), eσ678, dk_up_s]
                      exact lp259 _ σ681 (Nat.lt_succ_self _) (fun k_ j_ h_ => rfl) (by omega) (by omega) (by omega)
                  · skip
                    refine dk_if_eq (tgt := 322) (pc' := 273) hE dX11_next_270 (by decide) rfl (fun hc774 => ?_) (fun hc774 => absurd hc774 (by decide))
                    refine dk_aload_n (pc' := 323) hE dX11_next_322 rfl rfl rfl ?_
                    refine dk_aload_n (pc' := 324) hE dX11_next_323 rfl rfl rfl ?_
                    refine gf_11_7 (pc' := 327) hE fl_X11_212 dX11_next_324 is_141 rfl (fun v775 hv775 htv775 hbv775 => ?_)
                    have hq775 : v3 = v775 := (show v775 = v3 by rw [hv775, hv563]).symm
                    subst hq775
                    clear htv775 hbv775
                    refine dk_aload_n (pc' := 328) hE dX11_next_327 rfl rfl rfl ?_
                    refine gf_11_6 (pc' := 331) hE fl_X11_215 dX11_next_328 is_141 rfl (fun v776 hv776 htv776 hbv776 => ?_)
                    have hq776 : v3 = v776 := (show v776 = v3 by rw [hv776, eσ562, dk_up_n (show ¬ (141 = 141 ∧ 6 = 7) by omega), hv561]).symm
                    subst hq776
                    clear htv776 hbv776
                    obtain ⟨v777, hv777⟩ : ∃ z : Int, z = v3 - v3 := ⟨_, rfl⟩
                    refine dk_isub (pc' := 332) hE dX11_next_331 hv777.symm (by omega) rfl ?_
                    refine dk_iconst (pc' := 333) hE dX11_next_332 (by decide) rfl ?_
                    refine dk_icmp_gt (tgt := 350) (pc' := 336) hE dX11_next_333 (by decide) rfl (fun hc778 => ?_) (fun hc778 => ?_)
                    · skip
                      refine dk_iconst (pc' := 351) hE dX11_next_350 (by decide) rfl ?_
                      refine dk_goto (tgt := 355) hE dX11_next_351 (by decide) ?_
                      refine pf_11_8 (pc' := 358) hE fl_X11_222 dX11_next_355 is_141 (by omega) rfl (fun σ779 eσ779 => ?_)
                      refine dk_goto (tgt := 377) hE dX11_next_358 (by decide) ?_
                      have hz780 : σ779 141 3 = v4 := by rw [eσ779, dk_up_n (show ¬ (141 = 141 ∧ 3 = 8) by omega), eσ562, dk_up_n (show ¬ (141 = 141 ∧ 3 = 7) by omega), eσ560, dk_up_n (show ¬ (141 = 141 ∧ 3 = 9) by omega), hv435]
                      have hz781 : σ779 141 4 = σ 141 4 := by rw [eσ779, dk_up_n (show ¬ (141 = 141 ∧ 4 = 8) by omega), eσ562, dk_up_n (show ¬ (141 = 141 ∧ 4 = 7) by omega), eσ560, dk_up_n (show ¬ (141 = 141 ∧ 4 = 9) by omega), eσ433, dk_up_n (show ¬ (141 = 141 ∧ 4 = 7) by omega), hF8 141 4 (by omega), eσ2, dk_up_n (show ¬ (141 = 141 ∧ 4 = 6) by omega)]
                      have hz782 : σ779 141 6 = v3 := by rw [eσ779, dk_up_n (show ¬ (141 = 141 ∧ 6 = 8) by omega), hv776]
                      have hz783 : σ779 141 7 = v3 := by rw [eσ779, dk_up_n (show ¬ (141 = 141 ∧ 7 = 8) by omega), hv775]
                      have hz784 : σ779 141 8 = 1 := by rw [eσ779, dk_up_s]
                      exact dk_vret (st := []) hE hR dX11_next_377 ⟨rfl, (fun k_ j_ h_ => by rw [eσ779, dk_up_n (show ¬ (k_ = 141 ∧ j_ = 8) from fun q_ => h_ (Or.inr (Or.inr (Or.inl (q_))))), eσ562, dk_up_n (show ¬ (k_ = 141 ∧ j_ = 7) from fun q_ => h_ (Or.inr (Or.inl (q_)))), eσ560, dk_up_n (show ¬ (k_ = 141 ∧ j_ = 9) from fun q_ => h_ (Or.inr (Or.inr (Or.inr (Or.inl (q_)))))), eσ433, dk_up_n (show ¬ (k_ = 141 ∧ j_ = 7) from fun q_ => h_ (Or.inr (Or.inl (q_)))), hF8 k_ j_ (fun w_ => h_ (Or.inl (w_))), eσ2, dk_up_n (show ¬ (k_ = 141 ∧ j_ = 6) from fun q_ => h_ (Or.inl (q_)))]), NY_of (by omega) (by omega) (by omega) (by omega) (by omega)⟩
                    · skip
                      refine dk_aload_n (pc' := 337) hE dX11_next_336 rfl rfl rfl ?_
                      refine dk_aload_n (pc' := 338) hE dX11_next_337 rfl rfl rfl ?_
                      refine gf_11_7 (pc' := 341) hE fl_X11_212 dX11_next_338 is_141 rfl (fun v785 hv785 htv785 hbv785 => ?_)
                      have hq785 : v3 = v785 := (show v785 = v3 by rw [hv785, hv775]).symm
                      subst hq785
                      clear htv785 hbv785
                      refine dk_cV (pc' := 344) (as := [(0, v3)]) hE lk_X11_218 (ct_X11_sign l G hGd v3) dX11_next_341 rfl is_141 rfl (by decide) (Nat.le_of_ble_eq_true rfl) ⟨rfl, (by omega)⟩ rfl (fun r787 σ786 hr787 hor787 => ?_)
                      obtain ⟨v788, rfl, hfσ786, hpr787⟩ := hr787
                      have hsσ786 : σ562 = σ786 := (funext (fun k => funext (fun j => hfσ786 k j not_false))).symm
                      subst hsσ786
                      refine dk_cS (pc' := 347) (as := [(0, v788)]) hE lk_X11_225 (ct_X11_isLetter l G hGd v788) dX11_next_344 rfl rfl (by decide) (Nat.le_of_ble_eq_true rfl) rfl rfl (fun r790 σ789 hr790 hor790 => ?_)
                      obtain ⟨v791, rfl, hfσ789, hpr790⟩ := hr790
                      have hsσ789 : σ562 = σ789 := (funext (fun k => funext (fun j => hfσ789 k j not_false))).symm
                      subst hsσ789
                      rcases hpr790 with ⟨rfl, hpr790⟩ | ⟨rfl, hpr790⟩
                      · skip
                        refine dk_if_eq (tgt := 354) (pc' := 350) hE dX11_next_347 (by decide) rfl (fun hc792 => absurd hc792 (by decide)) (fun hc792 => ?_)
                        refine dk_iconst (pc' := 351) hE dX11_next_350 (by decide) rfl ?_
                        refine dk_goto (tgt := 355) hE dX11_next_351 (by decide) ?_
                        refine pf_11_8 (pc' := 358) hE fl_X11_222 dX11_next_355 is_141 (by omega) rfl (fun σ793 eσ793 => ?_)
                        refine dk_goto (tgt := 377) hE dX11_next_358 (by decide) ?_
                        have hz794 : σ793 141 3 = v4 := by rw [eσ793, dk_up_n (show ¬ (141 = 141 ∧ 3 = 8) by omega), eσ562, dk_up_n (show ¬ (141 = 141 ∧ 3 = 7) by omega), eσ560, dk_up_n (show ¬ (141 = 141 ∧ 3 = 9) by omega), hv435]
                        have hz795 : σ793 141 4 = σ 141 4 := by rw [eσ793, dk_up_n (show ¬ (141 = 141 ∧ 4 = 8) by omega), eσ562, dk_up_n (show ¬ (141 = 141 ∧ 4 = 7) by omega), eσ560, dk_up_n (show ¬ (141 = 141 ∧ 4 = 9) by omega), eσ433, dk_up_n (show ¬ (141 = 141 ∧ 4 = 7) by omega), hF8 141 4 (by omega), eσ2, dk_up_n (show ¬ (141 = 141 ∧ 4 = 6) by omega)]
                        have hz796 : σ793 141 6 = v3 := by rw [eσ793, dk_up_n (show ¬ (141 = 141 ∧ 6 = 8) by omega), hv776]
                        have hz797 : σ793 141 7 = v3 := by rw [eσ793, dk_up_n (show ¬ (141 = 141 ∧ 7 = 8) by omega), hv785]
                        have hz798 : σ793 141 8 = 1 := by rw [eσ793, dk_up_s]
                        exact dk_vret (st := []) hE hR dX11_next_377 ⟨rfl, (fun k_ j_ h_ => by rw [eσ793, dk_up_n (show ¬ (k_ = 141 ∧ j_ = 8) from fun q_ => h_ (Or.inr (Or.inr (Or.inl (q_))))), eσ562, dk_up_n (show ¬ (k_ = 141 ∧ j_ = 7) from fun q_ => h_ (Or.inr (Or.inl (q_)))), eσ560, dk_up_n (show ¬ (k_ = 141 ∧ j_ = 9) from fun q_ => h_ (Or.inr (Or.inr (Or.inr (Or.inl (q_)))))), eσ433, dk_up_n (show ¬ (k_ = 141 ∧ j_ = 7) from fun q_ => h_ (Or.inr (Or.inl (q_)))), hF8 k_ j_ (fun w_ => h_ (Or.inl (w_))), eσ2, dk_up_n (show ¬ (k_ = 141 ∧ j_ = 6) from fun q_ => h_ (Or.inl (q_)))]), NY_of (by omega) (by omega) (by omega) (by omega) (by omega)⟩
                      · skip
                        refine dk_if_eq (tgt := 354) (pc' := 350) hE dX11_next_347 (by decide) rfl (fun hc799 => ?_) (fun hc799 => absurd hc799 (by decide))
                        refine dk_iconst (pc' := 355) hE dX11_next_354 (by decide) rfl ?_
                        refine pf_11_8 (pc' := 358) hE fl_X11_222 dX11_next_355 is_141 (by omega) rfl (fun σ800 eσ800 => ?_)
                        refine dk_goto (tgt := 377) hE dX11_next_358 (by decide) ?_
                        have hz801 : σ800 141 3 = v4 := by rw [eσ800, dk_up_n (show ¬ (141 = 141 ∧ 3 = 8) by omega), eσ562, dk_up_n (show ¬ (141 = 141 ∧ 3 = 7) by omega), eσ560, dk_up_n (show ¬ (141 = 141 ∧ 3 = 9) by omega), hv435]
                        have hz802 : σ800 141 4 = σ 141 4 := by rw [eσ800, dk_up_n (show ¬ (141 = 141 ∧ 4 = 8) by omega), eσ562, dk_up_n (show ¬ (141 = 141 ∧ 4 = 7) by omega), eσ560, dk_up_n (show ¬ (141 = 141 ∧ 4 = 9) by omega), eσ433, dk_up_n (show ¬ (141 = 141 ∧ 4 = 7) by omega), hF8 141 4 (by omega), eσ2, dk_up_n (show ¬ (141 = 141 ∧ 4 = 6) by omega)]
                        have hz803 : σ800 141 6 = v3 := by rw [eσ800, dk_up_n (show ¬ (141 = 141 ∧ 6 = 8) by omega), hv776]
                        have hz804 : σ800 141 7 = v3 := by rw [eσ800, dk_up_n (show ¬ (141 = 141 ∧ 7 = 8) by omega), hv785]
                        have hz805 : σ800 141 8 = 4 := by rw [eσ800, dk_up_s]
                        exact dk_vret (st := []) hE hR dX11_next_377 ⟨rfl, (fun k_ j_ h_ => by rw [eσ800, dk_up_n (show ¬ (k_ = 141 ∧ j_ = 8) from fun q_ => h_ (Or.inr (Or.inr (Or.inl (q_))))), eσ562, dk_up_n (show ¬ (k_ = 141 ∧ j_ = 7) from fun q_ => h_ (Or.inr (Or.inl (q_)))), eσ560, dk_up_n (show ¬ (k_ = 141 ∧ j_ = 9) from fun q_ => h_ (Or.inr (Or.inr (Or.inr (Or.inl (q_)))))), eσ433, dk_up_n (show ¬ (k_ = 141 ∧ j_ = 7) from fun q_ => h_ (Or.inr (Or.inl (q_)))), hF8 k_ j_ (fun w_ => h_ (Or.inl (w_))), eσ2, dk_up_n (show ¬ (k_ = 141 ∧ j_ = 6) from fun q_ => h_ (Or.inl (q_)))]), NY_of (by omega) (by omega) (by omega) (by omega) (by omega)⟩
                · skip
                  refine dk_if_eq (tgt := 361) (pc' := 246) hE dX11_next_243 (by decide) rfl (fun hc806 => ?_) (fun hc806 => absurd hc806 (by decide))
                  refine dk_aload_n (pc' := 362) hE dX11_next_361 rfl rfl rfl ?_
                  refine dk_iload_n (pc' := 363) hE dX11_next_362 rfl rfl rfl ?_
                  refine dk_cS (pc' := 366) (as := [(0, v430)]) hE lk_X11_243 (ct_X11_isSign l G hGd v430) dX11_next_363 rfl rfl (by decide) (Nat.le_of_ble_eq_true rfl) rfl rfl (fun r808 σ807 hr808 hor808 => ?_)
                  obtain ⟨v809, rfl, hfσ807, hpr808⟩ := hr808
                  have hsσ807 : σ433 = σ807 := (funext (fun k => funext (fun j => hfσ807 k j not_false))).symm
                  subst hsσ807
                  refine dk_if_eq (tgt := 373) (pc' := 369) hE dX11_next_366 (by decide) rfl (fun hc810 => ?_) (fun hc810 => ?_)
                  · skip
                    refine dk_iconst (pc' := 374) hE dX11_next_373 (by decide) rfl ?_
                    refine pf_11_8 (pc' := 377) hE fl_X11_222 dX11_next_374 is_141 (by omega) rfl (fun σ811 eσ811 => ?_)
                    have hz812 : σ811 141 3 = v4 := by rw [eσ811, dk_up_n (show ¬ (141 = 141 ∧ 3 = 8) by omega), hv435]
                    have hz813 : σ811 141 4 = σ 141 4 := by rw [eσ811, dk_up_n (show ¬ (141 = 141 ∧ 4 = 8) by omega), eσ433, dk_up_n (show ¬ (141 = 141 ∧ 4 = 7) by omega), hF8 141 4 (by omega), eσ2, dk_up_n (show ¬ (141 = 141 ∧ 4 = 6) by omega)]
                    have hz814 : σ811 141 6 = v3 := by rw [eσ811, dk_up_n (show ¬ (141 = 141 ∧ 6 = 8) by omega), hv434]
                    have hz815 : σ811 141 7 = v432 := by rw [eσ811, dk_up_n (show ¬ (141 = 141 ∧ 7 = 8) by omega), eσ433, dk_up_s]
                    have hz816 : σ811 141 8 = 1 := by rw [eσ811, dk_up_s]
                    exact dk_vret (st := []) hE hR dX11_next_377 ⟨rfl, (fun k_ j_ h_ => by rw [eσ811, dk_up_n (show ¬ (k_ = 141 ∧ j_ = 8) from fun q_ => h_ (Or.inr (Or.inr (Or.inl (q_))))), eσ433, dk_up_n (show ¬ (k_ = 141 ∧ j_ = 7) from fun q_ => h_ (Or.inr (Or.inl (q_)))), hF8 k_ j_ (fun w_ => h_ (Or.inl (w_))), eσ2, dk_up_n (show ¬ (k_ = 141 ∧ j_ = 6) from fun q_ => h_ (Or.inl (q_)))]), NY_of (by omega) (by omega) (by omega) (by omega) (by omega)⟩
                  · skip
                    refine dk_iconst (pc' := 370) hE dX11_next_369 (by decide) rfl ?_
                    refine dk_goto (tgt := 374) hE dX11_next_370 (by decide) ?_
                    refine pf_11_8 (pc' := 377) hE fl_X11_222 dX11_next_374 is_141 (by omega) rfl (fun σ817 eσ817 => ?_)
                    have hz818 : σ817 141 3 = v4 := by rw [eσ817, dk_up_n (show ¬ (141 = 141 ∧ 3 = 8) by omega), hv435]
                    have hz819 : σ817 141 4 = σ 141 4 := by rw [eσ817, dk_up_n (show ¬ (141 = 141 ∧ 4 = 8) by omega), eσ433, dk_up_n (show ¬ (141 = 141 ∧ 4 = 7) by omega), hF8 141 4 (by omega), eσ2, dk_up_n (show ¬ (141 = 141 ∧ 4 = 6) by omega)]
                    have hz820 : σ817 141 6 = v3 := by rw [eσ817, dk_up_n (show ¬ (141 = 141 ∧ 6 = 8) by omega), hv434]
                    have hz821 : σ817 141 7 = v432 := by rw [eσ817, dk_up_n (show ¬ (141 = 141 ∧ 7 = 8) by omega), eσ433, dk_up_s]
                    have hz822 : σ817 141 8 = 5 := by rw [eσ817, dk_up_s]
                    exact dk_vret (st := []) hE hR dX11_next_377 ⟨rfl, (fun k_ j_ h_ => by rw [eσ817, dk_up_n (show ¬ (k_ = 141 ∧ j_ = 8) from fun q_ => h_ (Or.inr (Or.inr (Or.inl (q_))))), eσ433, dk_up_n (show ¬ (k_ = 141 ∧ j_ = 7) from fun q_ => h_ (Or.inr (Or.inl (q_)))), hF8 k_ j_ (fun w_ => h_ (Or.inl (w_))), eσ2, dk_up_n (show ¬ (k_ = 141 ∧ j_ = 6) from fun q_ => h_ (Or.inl (q_)))]), NY_of (by omega) (by omega) (by omega) (by omega) (by omega)⟩
            · skip
              refine dk_aload_n (pc' := 89) hE dX11_next_88 rfl rfl rfl ?_
              refine dk_iconst (pc' := 90) hE dX11_next_89 (by decide) rfl ?_
              refine pf_11_8 (pc' := 93) hE fl_X11_222 dX11_next_90 is_141 (by omega) rfl (fun σ823 eσ823 => ?_)
              refine dk_aload_n (pc' := 94) hE dX11_next_93 rfl rfl rfl ?_
              refine dk_aload_n (pc' := 95) hE dX11_next_94 rfl rfl rfl ?_
              refine gf_11_3 (pc' := 98) hE fl_X11_164 dX11_next_95 is_141 rfl (fun v824 hv824 htv824 hbv824 => ?_)
              have hq824 : v4 = v824 := (show v824 = v4 by rw [hv824, eσ823, dk_up_n (show ¬ (141 = 141 ∧ 3 = 8) by omega), hv435]).symm
              subst hq824
              clear htv824 hbv824
              refine pf_11_6 (pc' := 101) hE fl_X11_215 dX11_next_98 is_141 (by omega) rfl (fun σ825 eσ825 => ?_)
              refine dk_aload_n (pc' := 102) hE dX11_next_101 rfl rfl rfl ?_
              refine dk_aload_n (pc' := 103) hE dX11_next_102 rfl rfl rfl ?_
              refine gf_11_3 (pc' := 106) hE fl_X11_164 dX11_next_103 is_141 rfl (fun v826 hv826 htv826 hbv826 => ?_)
              have hq826 : v4 = v826 := (show v826 = v4 by rw [hv826, eσ825, dk_up_n (show ¬ (141 = 141 ∧ 3 = 6) by omega), hv824]).symm
              subst hq826
              clear htv826 hbv826
              refine pf_11_7 (pc' := 109) hE fl_X11_212 dX11_next_106 is_141 (by omega) rfl (fun σ827 eσ827 => ?_)
              refine dk_goto (tgt := 377) hE dX11_next_109 (by decide) ?_
              have hz828 : σ827 141 3 = v4 := by rw [eσ827, dk_up_n (show ¬ (141 = 141 ∧ 3 = 7) by omega), hv826]
              have hz829 : σ827 141 4 = σ 141 4 := by rw [eσ827, dk_up_n (show ¬ (141 = 141 ∧ 4 = 7) by omega), eσ825, dk_up_n (show ¬ (141 = 141 ∧ 4 = 6) by omega), eσ823, dk_up_n (show ¬ (141 = 141 ∧ 4 = 8) by omega), eσ433, dk_up_n (show ¬ (141 = 141 ∧ 4 = 7) by omega), hF8 141 4 (by omega), eσ2, dk_up_n (show ¬ (141 = 141 ∧ 4 = 6) by omega)]
              have hz830 : σ827 141 6 = v4 := by rw [eσ827, dk_up_n (show ¬ (141 = 141 ∧ 6 = 7) by omega), eσ825, dk_up_s]
              have hz831 : σ827 141 7 = v4 := by rw [eσ827, dk_up_s]
              have hz832 : σ827 141 8 = 0 := by rw [eσ827, dk_up_n (show ¬ (141 = 141 ∧ 8 = 7) by omega), eσ825, dk_up_n (show ¬ (141 = 141 ∧ 8 = 6) by omega), eσ823, dk_up_s]
              exact dk_vret (st := []) hE hR dX11_next_377 ⟨rfl, (fun k_ j_ h_ => by rw [eσ827, dk_up_n (show ¬ (k_ = 141 ∧ j_ = 7) from fun q_ => h_ (Or.inr (Or.inl (q_)))), eσ825, dk_up_n (show ¬ (k_ = 141 ∧ j_ = 6) from fun q_ => h_ (Or.inl (q_))), eσ823, dk_up_n (show ¬ (k_ = 141 ∧ j_ = 8) from fun q_ => h_ (Or.inr (Or.inr (Or.inl (q_))))), eσ433, dk_up_n (show ¬ (k_ = 141 ∧ j_ = 7) from fun q_ => h_ (Or.inr (Or.inl (q_)))), hF8 k_ j_ (fun w_ => h_ (Or.inl (w_))), eσ2, dk_up_n (show ¬ (k_ = 141 ∧ j_ = 6) from fun q_ => h_ (Or.inl (q_)))]), NY_of (by omega) (by omega) (by omega) (by omega) (by omega)⟩
          · skip
            refine dk_aload_n (pc' := 46) hE dX11_next_45 rfl rfl rfl ?_
            refine dk_dup (pc' := 47) hE dX11_next_46 (show (4 : Nat) ≠ 3 by decide) rfl ?_
            refine gf_11_6 (pc' := 50) hE fl_X11_215 dX11_next_47 is_141 rfl (fun v833 hv833 htv833 hbv833 => ?_)
            have hq833 : v3 = v833 := (show v833 = v3 by rw [hv833, hv422]).symm
            subst hq833
            clear htv833 hbv833
            refine dk_iconst (pc' := 51) hE dX11_next_50 (by decide) rfl ?_
            obtain ⟨v834, hv834⟩ : ∃ z : Int, z = v3 + 1 := ⟨_, rfl⟩
            refine dk_iadd (pc' := 52) hE dX11_next_51 hv834.symm (by omega) rfl ?_
            refine pf_11_6 (pc' := 55) hE fl_X11_215 dX11_next_52 is_141 (by omega) rfl (fun σ835 eσ835 => ?_)
            refine dk_goto (tgt := 8) hE dX11_next_55 (by decide) ?_
            have hz835_141_6 : σ835 141 6 = v834 := by rw [eσ835, dk_up_s]
            have hz836_141_3 := (show σ835 141 3 = _ by rw [eσ835, dk_up_n (show ¬ (141 = 141 ∧ 3 = 6) by omega)])
            exact ih8 σ835 (by omega) (fun k_ j_ h_ => by rw [eσ835, dk_up_n (show ¬ (k_ = 141 ∧ j_ = 6) from fun q_ => h_ (q_)), hF8 k_ j_ (fun w_ => h_ (w_))]) (by omega) (by omega)
  have hz838 : σ2 141 6 = v1 := by rw [eσ2, dk_up_s]
  have hz839 : σ2 141 6 = v1 := by rw [eσ2, dk_up_s]
  have hz840 : σ2 141 3 = σ 141 3 := by rw [eσ2, dk_up_n (show ¬ (141 = 141 ∧ 3 = 6) by omega)]
  have hz841 : σ2 141 6 = v1 := by rw [eσ2, dk_up_s]
  have hz841_141_6 : σ2 141 6 = v1 := by rw [eσ2, dk_up_s]
  exact lp8 _ σ2 (Nat.lt_succ_self _) (fun k_ j_ h_ => rfl) (by omega) (by omega)
