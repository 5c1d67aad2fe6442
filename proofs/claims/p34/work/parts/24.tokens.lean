set_option maxHeartbeats 4000000 in
set_option maxRecDepth 20000 in
theorem ct_X11_sign (l : Launch) (G : dkG) (hGd : dk_Gd G) (k : Int) : dk_Ct l G dk_Ty yX11_sign cX11_sign 2 (some .int) 1 190 190 (fun av σ => av = [(4, 141), (0, k)] ∧ (0 ≤ k)) (fun _ σ r_ σ' => ∃ z : Int, r_ = some (0, z) ∧ (∀ k_ j_ : Int, ¬ (False) → σ' k_ j_ = σ k_ j_) ∧ (z = tsg σ k ∧ 0 ≤ z ∧ z ≤ 255 ∧ (σ 141 3 ≤ k → z = 0))) := by
  refine dk_enter hGd (by decide) (fun av σ hpre hok => ?_)
  obtain ⟨rfl, hk⟩ := hpre
  refine ⟨Nat.le_of_ble_eq_true rfl, fun E hE hR _ => ?_⟩
  have hi_k : dk_i32 k := dk_oki (hok _ (by simp))
  show dk_PJ E 0 [(4, 141), (0, k)] [] 190 σ
  refine dk_iload_n (pc' := 1) hE dX11_sign_0 rfl rfl rfl ?_
  refine dk_aload_n (pc' := 2) hE dX11_sign_1 rfl rfl rfl ?_
  refine gf_11_3 (pc' := 5) hE fl_X11_164 dX11_sign_2 is_141 rfl (fun v1 hv1 htv1 hbv1 => ?_)
  refine dk_icmp_ge (tgt := 21) (pc' := 8) hE dX11_sign_5 (by decide) rfl (fun hc2 => ?_) (fun hc2 => ?_)
  · skip
    refine dk_iconst (pc' := 22) hE dX11_sign_21 (by decide) rfl ?_
    exact dk_iret (st := []) hE hR dX11_sign_22 ⟨_, rfl, (fun k_ j_ h_ => rfl), ⟨by unfold tsg; first | (rw [if_pos (by omega)]; subst_vars; rfl) | rw [if_neg (by omega)], by omega, by omega, by omega⟩⟩
  · skip
    refine dk_aload_n (pc' := 9) hE dX11_sign_8 rfl rfl rfl ?_
    refine gf_11_1 (pc' := 12) (w := 143) hE fl_X11_13 dX11_sign_9 is_141 rfl rfl ?_
    refine dk_iload_n (pc' := 13) hE dX11_sign_12 rfl rfl rfl ?_
    refine ga_71 (pc' := 14) hE dX11_sign_13 is_143 (by omega) rfl (fun v3 hv3 htv3 hbv3 => ?_)
    refine dk_sipush (pc' := 17) hE dX11_sign_14 (by decide) rfl ?_
    refine dk_iand (pc' := 18) hE dX11_sign_17 rfl (fun v4 hv4 ev4 => ?_)
    have hxv4 := dk_and255 ev4
    refine dk_goto (tgt := 22) hE dX11_sign_18 (by decide) ?_
    exact dk_iret (st := []) hE hR dX11_sign_22 ⟨_, rfl, (fun k_ j_ h_ => rfl), ⟨by unfold tsg; first | (rw [if_pos (by omega)]; subst_vars; rfl) | rw [if_neg (by omega)], by omega, by omega, by omega⟩⟩
set_option maxHeartbeats 4000000 in
set_option maxRecDepth 20000 in
theorem ct_X11_isGood (l : Launch) (G : dkG) (hGd : dk_Gd G) : dk_Ct l G dk_Ty yX11_isGood cX11_isGood 1 (some .boolean) 1 190 190 (fun av σ => av = [(4, 141)]) (fun _ σ r_ σ' => ∃ z : Int, r_ = some (0, z) ∧ (∀ k_ j_ : Int, ¬ (False) → σ' k_ j_ = σ k_ j_) ∧ (z = 1 ∧ (σ 141 4 = 0) ∨ z = 0 ∧ (1 ≤ σ 141 4))) := by
  refine dk_enter hGd (by decide) (fun av σ hpre hok => ?_)
  subst hpre
  refine ⟨Nat.le_of_ble_eq_true rfl, fun E hE hR _ => ?_⟩
  show dk_PJ E 0 [(4, 141)] [] 190 σ
  refine dk_aload_n (pc' := 1) hE dX11_isGood_0 rfl rfl rfl ?_
  refine gf_11_4 (pc' := 4) hE fl_X11_167 dX11_isGood_1 is_141 rfl (fun v1 hv1 htv1 hbv1 => ?_)
  refine dk_if_ne (tgt := 11) (pc' := 7) hE dX11_isGood_4 (by decide) rfl (fun hc2 => ?_) (fun hc2 => ?_)
  · skip
    refine dk_iconst (pc' := 12) hE dX11_isGood_11 (by decide) rfl ?_
    exact dk_zret (st := []) hE hR dX11_isGood_12 (by omega) ⟨_, rfl, (fun k_ j_ h_ => rfl), by omega⟩
  · skip
    refine dk_iconst (pc' := 8) hE dX11_isGood_7 (by decide) rfl ?_
    refine dk_goto (tgt := 12) hE dX11_isGood_8 (by decide) ?_
    exact dk_zret (st := []) hE hR dX11_isGood_12 (by omega) ⟨_, rfl, (fun k_ j_ h_ => rfl), by omega⟩
set_option maxHeartbeats 4000000 in
set_option maxRecDepth 20000 in
theorem ct_X11_fails (l : Launch) (G : dkG) (hGd : dk_Gd G) (a b : Int) : dk_Ct l G dk_Ty yX11_fails cX11_fails 3 (none) 1 190 190 (fun av σ => av = [(4, 141), (0, a), (0, b)] ∧ (1 ≤ a ∧ a ≤ 5)) (fun _ σ r_ σ' => r_ = none ∧ (∀ k_ j_ : Int, ¬ ((k_ = 141 ∧ j_ = 4) ∨ (k_ = 141 ∧ j_ = 5)) → σ' k_ j_ = σ k_ j_) ∧ (1 ≤ σ' 141 4)) := by
  refine dk_enter hGd (by decide) (fun av σ hpre hok => ?_)
  obtain ⟨rfl, ha⟩ := hpre
  refine ⟨Nat.le_of_ble_eq_true rfl, fun E hE hR _ => ?_⟩
  have hi_a : dk_i32 a := dk_oki (hok _ (by simp))
  have hi_b : dk_i32 b := dk_oki (hok _ (by simp))
  show dk_PJ E 0 [(4, 141), (0, a), (0, b)] [] 190 σ
  refine dk_aload_n (pc' := 1) hE dX11_fails_0 rfl rfl rfl ?_
  refine gf_11_4 (pc' := 4) hE fl_X11_167 dX11_fails_1 is_141 rfl (fun v1 hv1 htv1 hbv1 => ?_)
  refine dk_if_le (tgt := 8) (pc' := 7) hE dX11_fails_4 (by decide) rfl (fun hc2 => ?_) (fun hc2 => ?_)
  · skip
    refine dk_aload_n (pc' := 9) hE dX11_fails_8 rfl rfl rfl ?_
    refine dk_iload_n (pc' := 10) hE dX11_fails_9 rfl rfl rfl ?_
    refine pf_11_4 (pc' := 13) hE fl_X11_167 dX11_fails_10 is_141 (by omega) rfl (fun σ3 eσ3 => ?_)
    refine dk_aload_n (pc' := 14) hE dX11_fails_13 rfl rfl rfl ?_
    refine dk_iload_n (pc' := 15) hE dX11_fails_14 rfl rfl rfl ?_
    refine pf_11_5 (pc' := 18) hE fl_X11_16 dX11_fails_15 is_141 trivial rfl (fun σ4 eσ4 => ?_)
    have hz5 : σ4 141 4 = a := by rw [eσ4, dk_up_n (show ¬ (141 = 141 ∧ 4 = 5) by omega), eσ3, dk_up_s]
    exact dk_vret (st := []) hE hR dX11_fails_18 ⟨rfl, (fun k_ j_ h_ => by rw [eσ4, dk_up_n (show ¬ (k_ = 141 ∧ j_ = 5) from fun q_ => h_ (Or.inr (q_))), eσ3, dk_up_n (show ¬ (k_ = 141 ∧ j_ = 4) from fun q_ => h_ (Or.inl (q_)))]), by omega⟩
  · skip
    have hz6 : σ 141 4 = v1 := by rw [hv1]
    exact dk_vret (st := []) hE hR dX11_fails_7 ⟨rfl, (fun k_ j_ h_ => rfl), by omega⟩
set_option maxHeartbeats 4000000 in
set_option maxRecDepth 20000 in
theorem ct_X11_wrong (l : Launch) (G : dkG) (hGd : dk_Gd G) : dk_Ct l G dk_Ty yX11_wrong cX11_wrong 1 (none) 2 190 190 (fun av σ => av = [(4, 141)]) (fun _ σ r_ σ' => r_ = none ∧ (∀ k_ j_ : Int, ¬ ((k_ = 141 ∧ j_ = 4) ∨ (k_ = 141 ∧ j_ = 5)) → σ' k_ j_ = σ k_ j_) ∧ (1 ≤ σ' 141 4)) := by
  refine dk_enter hGd (by decide) (fun av σ hpre hok => ?_)
  subst hpre
  refine ⟨Nat.le_of_ble_eq_true rfl, fun E hE hR _ => ?_⟩
  show dk_PJ E 0 [(4, 141)] [] 190 σ
  refine dk_aload_n (pc' := 1) hE dX11_wrong_0 rfl rfl rfl ?_
  refine dk_aload_n (pc' := 2) hE dX11_wrong_1 rfl rfl rfl ?_
  refine gf_11_8 (pc' := 5) hE fl_X11_222 dX11_wrong_2 is_141 rfl (fun v1 hv1 htv1 hbv1 => ?_)
  refine dk_iconst (pc' := 6) hE dX11_wrong_5 (by decide) rfl ?_
  refine dk_icmp_ne (tgt := 13) (pc' := 9) hE dX11_wrong_6 (by decide) rfl (fun hc2 => ?_) (fun hc2 => ?_)
  · skip
    refine dk_iconst (pc' := 14) hE dX11_wrong_13 (by decide) rfl ?_
    refine dk_aload_n (pc' := 15) hE dX11_wrong_14 rfl rfl rfl ?_
    refine gf_11_6 (pc' := 18) hE fl_X11_215 dX11_wrong_15 is_141 rfl (fun v3 hv3 htv3 hbv3 => ?_)
    refine dk_cV (pc' := 21) (as := [(0, 2), (0, v3)]) hE lk_X11_246 (ct_X11_fails l G hGd 2 v3) dX11_wrong_18 rfl is_141 rfl (by decide) (Nat.le_of_ble_eq_true rfl) ⟨rfl, (by omega)⟩ rfl (fun r5 σ4 hr5 hor5 => ?_)
    obtain ⟨rfl, hfσ4, hpr5⟩ := hr5
    exact dk_vret (st := []) hE hR dX11_wrong_21 ⟨rfl, (fun k_ j_ h_ => by rw [hfσ4 k_ j_ (fun w_ => h_ (w_.elim (fun x0_ => Or.inl (x0_)) (fun y0_ => Or.inr (y0_))))]), by omega⟩
  · skip
    refine dk_iconst (pc' := 10) hE dX11_wrong_9 (by decide) rfl ?_
    refine dk_goto (tgt := 14) hE dX11_wrong_10 (by decide) ?_
    refine dk_aload_n (pc' := 15) hE dX11_wrong_14 rfl rfl rfl ?_
    refine gf_11_6 (pc' := 18) hE fl_X11_215 dX11_wrong_15 is_141 rfl (fun v6 hv6 htv6 hbv6 => ?_)
    refine dk_cV (pc' := 21) (as := [(0, 1), (0, v6)]) hE lk_X11_246 (ct_X11_fails l G hGd 1 v6) dX11_wrong_18 rfl is_141 rfl (by decide) (Nat.le_of_ble_eq_true rfl) ⟨rfl, (by omega)⟩ rfl (fun r8 σ7 hr8 hor8 => ?_)
    obtain ⟨rfl, hfσ7, hpr8⟩ := hr8
    exact dk_vret (st := []) hE hR dX11_wrong_21 ⟨rfl, (fun k_ j_ h_ => by rw [hfσ7 k_ j_ (fun w_ => h_ (w_.elim (fun x0_ => Or.inl (x0_)) (fun y0_ => Or.inr (y0_))))]), by omega⟩
set_option maxHeartbeats 4000000 in
set_option maxRecDepth 20000 in
theorem ct_X11_isWord (l : Launch) (G : dkG) (hGd : dk_Gd G) (w : Int) : dk_Ct l G dk_Ty yX11_isWord cX11_isWord 3 (some .boolean) 1 190 190 (fun av σ => av = [(4, 141), (3, w)]) (fun _ σ r_ σ' => ∃ z : Int, r_ = some (0, z) ∧ (∀ k_ j_ : Int, ¬ (False) → σ' k_ j_ = σ k_ j_) ∧ (z = 1 ∧ (σ 141 8 = 3) ∨ z = 0)) := by
  refine dk_enter hGd (by decide) (fun av σ hpre hok => ?_)
  subst hpre
  refine ⟨Nat.le_of_ble_eq_true rfl, fun E hE hR _ => ?_⟩
  have hi_w : dk_i64 w := dk_okl (hok _ (by simp))
  show dk_PJ E 0 [(4, 141), (3, w), (9, 0)] [] 190 σ
  refine dk_aload_n (pc' := 1) hE dX11_isWord_0 rfl rfl rfl ?_
  refine gf_11_8 (pc' := 4) hE fl_X11_222 dX11_isWord_1 is_141 rfl (fun v1 hv1 htv1 hbv1 => ?_)
  refine dk_iconst (pc' := 5) hE dX11_isWord_4 (by decide) rfl ?_
  refine dk_icmp_ne (tgt := 21) (pc' := 8) hE dX11_isWord_5 (by decide) rfl (fun hc2 => ?_) (fun hc2 => ?_)
  · skip
    refine dk_iconst (pc' := 22) hE dX11_isWord_21 (by decide) rfl ?_
    exact dk_zret (st := []) hE hR dX11_isWord_22 (by omega) ⟨_, rfl, (fun k_ j_ h_ => rfl), by omega⟩
  · skip
    refine dk_aload_n (pc' := 9) hE dX11_isWord_8 rfl rfl rfl ?_
    refine gf_11_10 (pc' := 12) hE fl_X11_229 dX11_isWord_9 is_141 rfl (fun v3 hv3 htv3 hbv3 => ?_)
    refine dk_lload_n (pc' := 13) hE dX11_isWord_12 rfl rfl rfl ?_
    refine dk_lcmp (pc' := 14) hE dX11_isWord_13 rfl (fun v4 hv4 => ?_)
    refine dk_if_ne (tgt := 21) (pc' := 17) hE dX11_isWord_14 (by decide) rfl (fun hc5 => ?_) (fun hc5 => ?_)
    · skip
      refine dk_iconst (pc' := 22) hE dX11_isWord_21 (by decide) rfl ?_
      exact dk_zret (st := []) hE hR dX11_isWord_22 (by omega) ⟨_, rfl, (fun k_ j_ h_ => rfl), by omega⟩
    · skip
      refine dk_iconst (pc' := 18) hE dX11_isWord_17 (by decide) rfl ?_
      refine dk_goto (tgt := 22) hE dX11_isWord_18 (by decide) ?_
      exact dk_zret (st := []) hE hR dX11_isWord_22 (by omega) ⟨_, rfl, (fun k_ j_ h_ => rfl), by omega⟩
set_option maxHeartbeats 4000000 in
set_option maxRecDepth 20000 in
theorem ct_X11_is (l : Launch) (G : dkG) (hGd : dk_Gd G) (c : Int) : dk_Ct l G dk_Ty yX11_is cX11_is 2 (some .boolean) 2 190 190 (fun av σ => av = [(4, 141), (0, c)]) (fun _ σ r_ σ' => ∃ z : Int, r_ = some (0, z) ∧ (∀ k_ j_ : Int, ¬ (False) → σ' k_ j_ = σ k_ j_) ∧ (z = 1 ∧ (σ 141 8 = 5) ∨ z = 0)) := by
  refine dk_enter hGd (by decide) (fun av σ hpre hok => ?_)
  subst hpre
  refine ⟨Nat.le_of_ble_eq_true rfl, fun E hE hR _ => ?_⟩
  have hi_c : dk_i32 c := dk_oki (hok _ (by simp))
  show dk_PJ E 0 [(4, 141), (0, c)] [] 190 σ
  refine dk_aload_n (pc' := 1) hE dX11_is_0 rfl rfl rfl ?_
  refine gf_11_8 (pc' := 4) hE fl_X11_222 dX11_is_1 is_141 rfl (fun v1 hv1 htv1 hbv1 => ?_)
  refine dk_iconst (pc' := 5) hE dX11_is_4 (by decide) rfl ?_
  refine dk_icmp_ne (tgt := 24) (pc' := 8) hE dX11_is_5 (by decide) rfl (fun hc2 => ?_) (fun hc2 => ?_)
  · skip
    refine dk_iconst (pc' := 25) hE dX11_is_24 (by decide) rfl ?_
    exact dk_zret (st := []) hE hR dX11_is_25 (by omega) ⟨_, rfl, (fun k_ j_ h_ => rfl), by omega⟩
  · skip
    refine dk_aload_n (pc' := 9) hE dX11_is_8 rfl rfl rfl ?_
    refine dk_aload_n (pc' := 10) hE dX11_is_9 rfl rfl rfl ?_
    refine gf_11_6 (pc' := 13) hE fl_X11_215 dX11_is_10 is_141 rfl (fun v3 hv3 htv3 hbv3 => ?_)
    refine dk_cV (pc' := 16) (as := [(0, v3)]) hE lk_X11_218 (ct_X11_sign l G hGd v3) dX11_is_13 rfl is_141 rfl (by decide) (Nat.le_of_ble_eq_true rfl) ⟨rfl, (by omega)⟩ rfl (fun r5 σ4 hr5 hor5 => ?_)
    obtain ⟨v6, rfl, hfσ4, hpr5⟩ := hr5
    have hsσ4 : σ = σ4 := (funext (fun k => funext (fun j => hfσ4 k j not_false))).symm
    subst hsσ4
    refine dk_iload_n (pc' := 17) hE dX11_is_16 rfl rfl rfl ?_
    refine dk_icmp_ne (tgt := 24) (pc' := 20) hE dX11_is_17 (by decide) rfl (fun hc7 => ?_) (fun hc7 => ?_)
    · skip
      refine dk_iconst (pc' := 25) hE dX11_is_24 (by decide) rfl ?_
      exact dk_zret (st := []) hE hR dX11_is_25 (by omega) ⟨_, rfl, (fun k_ j_ h_ => rfl), by omega⟩
    · skip
      refine dk_iconst (pc' := 21) hE dX11_is_20 (by decide) rfl ?_
      refine dk_goto (tgt := 25) hE dX11_is_21 (by decide) ?_
      exact dk_zret (st := []) hE hR dX11_is_25 (by omega) ⟨_, rfl, (fun k_ j_ h_ => rfl), by omega⟩
set_option maxHeartbeats 4000000 in
set_option maxRecDepth 20000 in
theorem ct_X11_next (l : Launch) (G : dkG) (hGd : dk_Gd G) : dk_Ct l G dk_Ty yX11_next cX11_next 3 (none) 2 190 190 (fun av σ => av = [(4, 141)] ∧ (σ 141 7 ≤ σ 141 3)) (fun _ σ r_ σ' => r_ = none ∧ (∀ k_ j_ : Int, ¬ ((k_ = 141 ∧ j_ = 6) ∨ (k_ = 141 ∧ j_ = 7) ∨ (k_ = 141 ∧ j_ = 8) ∨ (k_ = 141 ∧ j_ = 9) ∨ (k_ = 141 ∧ j_ = 10)) → σ' k_ j_ = σ k_ j_) ∧ (NY σ σ' ∧ σ' 141 6 ≤ σ' 141 7)) := by
  refine dk_enter hGd (by decide) (fun av σ hpre hok => ?_)
  obtain ⟨rfl, hN⟩ := hpre
  refine ⟨Nat.le_of_ble_eq_true rfl, fun E hE hR _ => ?_⟩
  show dk_PJ E 0 [(4, 141), (9, 0), (9, 0)] [] 190 σ
  refine dk_aload_n (pc' := 1) hE dX11_next_0 rfl rfl rfl ?_
  refine dk_aload_n (pc' := 2) hE dX11_next_1 rfl rfl rfl ?_
  refine gf_11_7 (pc' := 5) hE fl_X11_212 dX11_next_2 is_141 rfl (fun v1 hv1 htv1 hbv1 => ?_)
  refine pf_11_6 (pc' := 8) hE fl_X11_215 dX11_next_5 is_141 (by omega) rfl (fun σ2 eσ2 => ?_)
  have lp8 : ∀ (N_ : Nat) (σ8c : dkS), (1401 - σ8c 141 6).toNat < N_ → ((∀ k_ j_ : Int, ¬ ((k_ = 141 ∧ j_ = 6)) → σ8c k_ j_ = σ2 k_ j_)) → (σ 141 7 ≤ σ8c 141 6 ∧ σ8c 141 6 ≤ σ 141 3) → (σ8c 141 3 = σ 141 3) → dk_PJ E 8 [(4, 141), (9, 0), (9, 0)] [] 190 σ8c := by
    intro N8
    induction N8 with
    | zero => intro  σ8c hm; exact absurd hm (Nat.not_lt_zero _)
    | succ N8 ih8 =>
      intro  σ8c hm8 hF8 ha hs3
      refine dk_aload_n (pc' := 9) hE dX11_next_8 rfl rfl rfl ?_
      refine gf_11_6 (pc' := 12) hE fl_X11_215 dX11_next_9 is_141 rfl (fun v3 hv3 htv3 hbv3 => ?_)
      refine dk_aload_n (pc' := 13) hE dX11_next_12 rfl rfl rfl ?_
      refine gf_11_3 (pc' := 16) hE fl_X11_164 dX11_next_13 is_141 rfl (fun v4 hv4 htv4 hbv4 => ?_)
      refine dk_icmp_ge (tgt := 58) (pc' := 19) hE dX11_next_16 (by decide) rfl (fun hc5 => ?_) (fun hc5 => ?_)
      · skip
        refine dk_aload_n (pc' := 59) hE dX11_next_58 rfl rfl rfl ?_
        refine dk_aload_n (pc' := 60) hE dX11_next_59 rfl rfl rfl ?_
        refine gf_11_6 (pc' := 63) hE fl_X11_215 dX11_next_60 is_141 rfl (fun v6 hv6 htv6 hbv6 => ?_)
        have hq6 : v3 = v6 := (show v6 = v3 by rw [hv6, hv3]).symm
        subst hq6
        clear htv6 hbv6
        refine dk_cV (pc' := 66) (as := [(0, v3)]) hE lk_X11_218 (ct_X11_sign l G hGd v3) dX11_next_63 rfl is_141 rfl (by decide) (Nat.le_of_ble_eq_true rfl) ⟨rfl, (by omega)⟩ rfl (fun r8 σ7 hr8 hor8 => ?_)
        obtain ⟨v9, rfl, hfσ7, hpr8⟩ := hr8
        have hsσ7 : σ8c = σ7 := (funext (fun k => funext (fun j => hfσ7 k j not_false))).symm
        subst hsσ7
        refine dk_istore_n (pc' := 67) (ls' := [(4, 141), (0, v9), (9, 0)]) hE dX11_next_66 rfl rfl (by decide) rfl ?_
        refine dk_aload_n (pc' := 68) hE dX11_next_67 rfl rfl rfl ?_
        refine dk_aload_n (pc' := 69) hE dX11_next_68 rfl rfl rfl ?_
        refine gf_11_6 (pc' := 72) hE fl_X11_215 dX11_next_69 is_141 rfl (fun v10 hv10 htv10 hbv10 => ?_)
        have hq10 : v3 = v10 := (show v10 = v3 by rw [hv10, hv6]).symm
        subst hq10
        clear htv10 hbv10
        refine dk_iconst (pc' := 73) hE dX11_next_72 (by decide) rfl ?_
        obtain ⟨v11, hv11⟩ : ∃ z : Int, z = v3 + 1 := ⟨_, rfl⟩
        refine dk_iadd (pc' := 74) hE dX11_next_73 hv11.symm (by omega) rfl ?_
        refine pf_11_7 (pc' := 77) hE fl_X11_212 dX11_next_74 is_141 (by omega) rfl (fun σ12 eσ12 => ?_)
        refine dk_aload_n (pc' := 78) hE dX11_next_77 rfl rfl rfl ?_
        refine gf_11_6 (pc' := 81) hE fl_X11_215 dX11_next_78 is_141 rfl (fun v13 hv13 htv13 hbv13 => ?_)
        have hq13 : v3 = v13 := (show v13 = v3 by rw [hv13, eσ12, dk_up_n (show ¬ (141 = 141 ∧ 6 = 7) by omega), hv10]).symm
        subst hq13
        clear htv13 hbv13
        refine dk_aload_n (pc' := 82) hE dX11_next_81 rfl rfl rfl ?_
        refine gf_11_3 (pc' := 85) hE fl_X11_164 dX11_next_82 is_141 rfl (fun v14 hv14 htv14 hbv14 => ?_)
        have hq14 : v4 = v14 := (show v14 = v4 by rw [hv14, eσ12, dk_up_n (show ¬ (141 = 141 ∧ 3 = 7) by omega), hv4]).symm
        subst hq14
        clear htv14 hbv14
        refine dk_icmp_lt (tgt := 112) (pc' := 88) hE dX11_next_85 (by decide) rfl (fun hc15 => ?_) (fun hc15 => ?_)
        · skip
          refine dk_iload_n (pc' := 113) hE dX11_next_112 rfl rfl rfl ?_
          refine dk_cS (pc' := 116) (as := [(0, v9)]) hE lk_X11_225 (ct_X11_isLetter l G hGd v9) dX11_next_113 rfl rfl (by decide) (Nat.le_of_ble_eq_true rfl) rfl rfl (fun r17 σ16 hr17 hor17 => ?_)
          obtain ⟨v18, rfl, hfσ16, hpr17⟩ := hr17
          have hsσ16 : σ12 = σ16 := (funext (fun k => funext (fun j => hfσ16 k j not_false))).symm
          subst hsσ16
          rcases hpr17 with ⟨rfl, hpr17⟩ | ⟨rfl, hpr17⟩
          · skip
            refine dk_if_eq (tgt := 239) (pc' := 119) hE dX11_next_116 (by decide) rfl (fun hc19 => absurd hc19 (by decide)) (fun hc19 => ?_)
            have lp119 : ∀ (N_ : Nat) (σ119c : dkS), (1402 - σ119c 141 7).toNat < N_ → ((∀ k_ j_ : Int, ¬ ((k_ = 141 ∧ j_ = 7)) → σ119c k_ j_ = σ12 k_ j_)) → (σ119c 141 6 < σ119c 141 7 ∧ σ119c 141 7 ≤ σ 141 3 ∧ σ 141 7 ≤ σ119c 141 6) → (σ119c 141 3 = σ 141 3 ∧ σ119c 141 4 = σ 141 4) → dk_PJ E 119 [(4, 141), (0, v9), (9, 0)] [] 190 σ119c := by
              intro N119
              induction N119 with
              | zero => intro  σ119c hm; exact absurd hm (Nat.not_lt_zero _)
              | succ N119 ih119 =>
                intro  σ119c hm119 hF119 hb hs4
                refine dk_aload_n (pc' := 120) hE dX11_next_119 rfl rfl rfl ?_
                refine dk_aload_n (pc' := 121) hE dX11_next_120 rfl rfl rfl ?_
                refine gf_11_7 (pc' := 124) hE fl_X11_212 dX11_next_121 is_141 rfl (fun v20 hv20 htv20 hbv20 => ?_)
                refine dk_cV (pc' := 127) (as := [(0, v20)]) hE lk_X11_218 (ct_X11_sign l G hGd v20) dX11_next_124 rfl is_141 rfl (by decide) (Nat.le_of_ble_eq_true rfl) ⟨rfl, (by omega)⟩ rfl (fun r22 σ21 hr22 hor22 => ?_)
                obtain ⟨v23, rfl, hfσ21, hpr22⟩ := hr22
                have hsσ21 : σ119c = σ21 := (funext (fun k => funext (fun j => hfσ21 k j not_false))).symm
                subst hsσ21
                refine dk_cS (pc' := 130) (as := [(0, v23)]) hE lk_X11_225 (ct_X11_isLetter l G hGd v23) dX11_next_127 rfl rfl (by decide) (Nat.le_of_ble_eq_true rfl) rfl rfl (fun r25 σ24 hr25 hor25 => ?_)
                obtain ⟨v26, rfl, hfσ24, hpr25⟩ := hr25
                have hsσ24 : σ119c = σ24 := (funext (fun k => funext (fun j => hfσ24 k j not_false))).symm
                subst hsσ24
                rcases hpr25 with ⟨rfl, hpr25⟩ | ⟨rfl, hpr25⟩
                · skip
                  refine dk_if_eq (tgt := 146) (pc' := 133) hE dX11_next_130 (by decide) rfl (fun hc27 => absurd hc27 (by decide)) (fun hc27 => ?_)
                  refine dk_aload_n (pc' := 134) hE dX11_next_133 rfl rfl rfl ?_
                  refine dk_dup (pc' := 135) hE dX11_next_134 (show (4 : Nat) ≠ 3 by decide) rfl ?_
                  refine gf_11_7 (pc' := 138) hE fl_X11_212 dX11_next_135 is_141 rfl (fun v28 hv28 htv28 hbv28 => ?_)
                  have hq28 : v20 = v28 := (show v28 = v20 by rw [hv28, hv20]).symm
                  subst hq28
                  clear htv28 hbv28
                  refine dk_iconst (pc' := 139) hE dX11_next_138 (by decide) rfl ?_
                  obtain ⟨v29, hv29⟩ : ∃ z : Int, z = v20 + 1 := ⟨_, rfl⟩
                  refine dk_iadd (pc' := 140) hE dX11_next_139 hv29.symm (by omega) rfl ?_
                  refine pf_11_7 (pc' := 143) hE fl_X11_212 dX11_next_140 is_141 (by omega) rfl (fun σ30 eσ30 => ?_)
                  refine dk_goto (tgt := 119) hE dX11_next_143 (by decide) ?_
                  have hz30_141_6 := (show σ30 141 6 = _ by rw [eσ30, dk_up_n (show ¬ (141 = 141 ∧ 6 = 7) by omega)])
                  have hz31_141_7 : σ30 141 7 = v29 := by rw [eσ30, dk_up_s]
                  have hz32_141_3 := (show σ30 141 3 = _ by rw [eσ30, dk_up_n (show ¬ (141 = 141 ∧ 3 = 7) by omega)])
                  have hz33_141_4 := (show σ30 141 4 = _ by rw [eσ30, dk_up_n (show ¬ (141 = 141 ∧ 4 = 7) by omega)])
                  exact ih119 σ30 (by omega) (fun k_ j_ h_ => by rw [eσ30, dk_up_n (show ¬ (k_ = 141 ∧ j_ = 7) from fun q_ => h_ (q_)), hF119 k_ j_ (fun w_ => h_ (w_))]) (by omega) (by omega)
                · skip
                  refine dk_if_eq (tgt := 146) (pc' := 133) hE dX11_next_130 (by decide) rfl (fun hc35 => ?_) (fun hc35 => absurd hc35 (by decide))
                  refine dk_aload_n (pc' := 147) hE dX11_next_146 rfl rfl rfl ?_
                  refine dk_lconst (pc' := 148) hE dX11_next_147 (w := 0) rfl rfl ?_
                  refine pf_11_10 (pc' := 151) hE fl_X11_229 dX11_next_148 is_141 trivial rfl (fun σ36 eσ36 => ?_)
                  refine dk_aload_n (pc' := 152) hE dX11_next_151 rfl rfl rfl ?_
                  refine gf_11_6 (pc' := 155) hE fl_X11_215 dX11_next_152 is_141 rfl (fun v37 hv37 htv37 hbv37 => ?_)
                  have hq37 : v3 = v37 := (show v37 = v3 by rw [hv37, eσ36, dk_up_n (show ¬ (141 = 141 ∧ 6 = 10) by omega), hF119 141 6 (by omega), hv13]).symm
                  subst hq37
                  clear htv37 hbv37
                  refine dk_istore_n (pc' := 156) (ls' := [(4, 141), (0, v9), (0, v3)]) hE dX11_next_155 rfl rfl (by decide) rfl ?_
                  have lp156 : ∀ (N_ : Nat) (k : Int) (σ156c : dkS), (2147483648 - k).toNat < N_ → ((∀ k_ j_ : Int, ¬ ((k_ = 141 ∧ j_ = 10)) → σ156c k_ j_ = σ36 k_ j_)) → (0 ≤ k) → (σ156c 141 6 < σ156c 141 7 ∧ σ156c 141 7 ≤ σ 141 3 ∧ σ 141 7 ≤ σ156c 141 6) → (σ156c 141 3 = σ 141 3 ∧ σ156c 141 4 = σ 141 4) → dk_PJ E 156 [(4, 141), (0, v9), (0, k)] [] 190 σ156c := by
                    intro N156
                    induction N156 with
                    | zero => intro k σ156c hm; exact absurd hm (Nat.not_lt_zero _)
                    | succ N156 ih156 =>
                      intro k σ156c hm156 hF156 hk hc hs5
                      refine dk_iload_n (pc' := 157) hE dX11_next_156 rfl rfl rfl ?_
                      refine dk_aload_n (pc' := 158) hE dX11_next_157 rfl rfl rfl ?_
                      refine gf_11_7 (pc' := 161) hE fl_X11_212 dX11_next_158 is_141 rfl (fun v38 hv38 htv38 hbv38 => ?_)
                      have hq38 : v20 = v38 := (show v38 = v20 by rw [hv38, hF156 141 7 (by omega), eσ36, dk_up_n (show ¬ (141 = 141 ∧ 7 = 10) by omega), hv20]).symm
                      subst hq38
                      clear htv38 hbv38
                      refine dk_icmp_ge (tgt := 199) (pc' := 164) hE dX11_next_161 (by decide) rfl (fun hc39 => ?_) (fun hc39 => ?_)
                      · skip
                        refine dk_aload_n (pc' := 200) hE dX11_next_199 rfl rfl rfl ?_
                        refine dk_aload_n (pc' := 201) hE dX11_next_200 rfl rfl rfl ?_
                        refine gf_11_7 (pc' := 204) hE fl_X11_212 dX11_next_201 is_141 rfl (fun v40 hv40 htv40 hbv40 => ?_)
                        have hq40 : v20 = v40 := (show v40 = v20 by rw [hv40, hv38]).symm
                        subst hq40
                        clear htv40 hbv40
                        refine dk_aload_n (pc' := 205) hE dX11_next_204 rfl rfl rfl ?_
                        refine gf_11_6 (pc' := 208) hE fl_X11_215 dX11_next_205 is_141 rfl (fun v41 hv41 htv41 hbv41 => ?_)
                        have hq41 : v3 = v41 := (show v41 = v3 by rw [hv41, hF156 141 6 (by omega), hv37]).symm
                        subst hq41
                        clear htv41 hbv41
                        obtain ⟨v42, hv42⟩ : ∃ z : Int, z = v20 - v3 := ⟨_, rfl⟩
                        refine dk_isub (pc' := 209) hE dX11_next_208 hv42.symm (by omega) rfl ?_
                        refine dk_bipush (pc' := 211) hE dX11_next_209 (by decide) rfl ?_
                        refine dk_icmp_le (tgt := 218) (pc' := 214) hE dX11_next_211 (by decide) rfl (fun hc43 => ?_) (fun hc43 => ?_)
                        · skip
                          refine dk_aload_n (pc' := 219) hE dX11_next_218 rfl rfl rfl ?_
                          refine gf_11_10 (pc' := 222) hE fl_X11_229 dX11_next_219 is_141 rfl (fun v44 hv44 htv44 hbv44 => ?_)
                          refine dk_cS (pc' := 225) (as := [(3, v44)]) hE lk_X11_233 (ct_X11_isKept l G hGd v44) dX11_next_222 rfl rfl (by decide) (Nat.le_of_ble_eq_true rfl) rfl rfl (fun r46 σ45 hr46 hor46 => ?_)
                          obtain ⟨v47, rfl, hfσ45, hpr46⟩ := hr46
                          have hsσ45 : σ156c = σ45 := (funext (fun k => funext (fun j => hfσ45 k j not_false))).symm
                          subst hsσ45
                          refine dk_if_eq (tgt := 232) (pc' := 228) hE dX11_next_225 (by decide) rfl (fun hc48 => ?_) (fun hc48 => ?_)
                          · skip
                            refine dk_iconst (pc' := 233) hE dX11_next_232 (by decide) rfl ?_
                            refine pf_11_8 (pc' := 236) hE fl_X11_222 dX11_next_233 is_141 (by omega) rfl (fun σ49 eσ49 => ?_)
                            refine dk_goto (tgt := 377) hE dX11_next_236 (by decide) ?_
                            have hz50 : σ49 141 3 = v4 := by rw [eσ49, dk_up_n (show ¬ (141 = 141 ∧ 3 = 8) by omega), hF156 141 3 (by omega), eσ36, dk_up_n (show ¬ (141 = 141 ∧ 3 = 10) by omega), hF119 141 3 (by omega), hv14]
                            have hz51 : σ49 141 4 = σ 141 4 := by rw [eσ49, dk_up_n (show ¬ (141 = 141 ∧ 4 = 8) by omega), hF156 141 4 (by omega), eσ36, dk_up_n (show ¬ (141 = 141 ∧ 4 = 10) by omega), hF119 141 4 (by omega), eσ12, dk_up_n (show ¬ (141 = 141 ∧ 4 = 7) by omega), hF8 141 4 (by omega), eσ2, dk_up_n (show ¬ (141 = 141 ∧ 4 = 6) by omega)]
                            have hz52 : σ49 141 6 = v3 := by rw [eσ49, dk_up_n (show ¬ (141 = 141 ∧ 6 = 8) by omega), hv41]
                            have hz53 : σ49 141 7 = v20 := by rw [eσ49, dk_up_n (show ¬ (141 = 141 ∧ 7 = 8) by omega), hv40]
                            have hz54 : σ49 141 8 = 2 := by rw [eσ49, dk_up_s]
                            exact dk_vret (st := []) hE hR dX11_next_377 ⟨rfl, (fun k_ j_ h_ => by rw [eσ49, dk_up_n (show ¬ (k_ = 141 ∧ j_ = 8) from fun q_ => h_ (Or.inr (Or.inr (Or.inl (q_))))), hF156 k_ j_ (fun w_ => h_ (Or.inr (Or.inr (Or.inr (Or.inr (w_)))))), eσ36, dk_up_n (show ¬ (k_ = 141 ∧ j_ = 10) from fun q_ => h_ (Or.inr (Or.inr (Or.inr (Or.inr (q_)))))), hF119 k_ j_ (fun w_ => h_ (Or.inr (Or.inl (w_)))), eσ12, dk_up_n (show ¬ (k_ = 141 ∧ j_ = 7) from fun q_ => h_ (Or.inr (Or.inl (q_)))), hF8 k_ j_ (fun w_ => h_ (Or.inl (w_))), eσ2, dk_up_n (show ¬ (k_ = 141 ∧ j_ = 6) from fun q_ => h_ (Or.inl (q_)))]), ⟨NY_of (by omega) (by omega) (by omega), by omega⟩⟩
                          · skip
                            refine dk_iconst (pc' := 229) hE dX11_next_228 (by decide) rfl ?_
                            refine dk_goto (tgt := 233) hE dX11_next_229 (by decide) ?_
                            refine pf_11_8 (pc' := 236) hE fl_X11_222 dX11_next_233 is_141 (by omega) rfl (fun σ55 eσ55 => ?_)
                            refine dk_goto (tgt := 377) hE dX11_next_236 (by decide) ?_
                            have hz56 : σ55 141 3 = v4 := by rw [eσ55, dk_up_n (show ¬ (141 = 141 ∧ 3 = 8) by omega), hF156 141 3 (by omega), eσ36, dk_up_n (show ¬ (141 = 141 ∧ 3 = 10) by omega), hF119 141 3 (by omega), hv14]
                            have hz57 : σ55 141 4 = σ 141 4 := by rw [eσ55, dk_up_n (show ¬ (141 = 141 ∧ 4 = 8) by omega), hF156 141 4 (by omega), eσ36, dk_up_n (show ¬ (141 = 141 ∧ 4 = 10) by omega), hF119 141 4 (by omega), eσ12, dk_up_n (show ¬ (141 = 141 ∧ 4 = 7) by omega), hF8 141 4 (by omega), eσ2, dk_up_n (show ¬ (141 = 141 ∧ 4 = 6) by omega)]
                            have hz58 : σ55 141 6 = v3 := by rw [eσ55, dk_up_n (show ¬ (141 = 141 ∧ 6 = 8) by omega), hv41]
                            have hz59 : σ55 141 7 = v20 := by rw [eσ55, dk_up_n (show ¬ (141 = 141 ∧ 7 = 8) by omega), hv40]
                            have hz60 : σ55 141 8 = 3 := by rw [eσ55, dk_up_s]
                            exact dk_vret (st := []) hE hR dX11_next_377 ⟨rfl, (fun k_ j_ h_ => by rw [eσ55, dk_up_n (show ¬ (k_ = 141 ∧ j_ = 8) from fun q_ => h_ (Or.inr (Or.inr (Or.inl (q_))))), hF156 k_ j_ (fun w_ => h_ (Or.inr (Or.inr (Or.inr (Or.inr (w_)))))), eσ36, dk_up_n (show ¬ (k_ = 141 ∧ j_ = 10) from fun q_ => h_ (Or.inr (Or.inr (Or.inr (Or.inr (q_)))))), hF119 k_ j_ (fun w_ => h_ (Or.inr (Or.inl (w_)))), eσ12, dk_up_n (show ¬ (k_ = 141 ∧ j_ = 7) from fun q_ => h_ (Or.inr (Or.inl (q_)))), hF8 k_ j_ (fun w_ => h_ (Or.inl (w_))), eσ2, dk_up_n (show ¬ (k_ = 141 ∧ j_ = 6) from fun q_ => h_ (Or.inl (q_)))]), ⟨NY_of (by omega) (by omega) (by omega), by omega⟩⟩
                        · skip
                          refine dk_iconst (pc' := 215) hE dX11_next_214 (by decide) rfl ?_
                          refine dk_goto (tgt := 233) hE dX11_next_215 (by decide) ?_
                          refine pf_11_8 (pc' := 236) hE fl_X11_222 dX11_next_233 is_141 (by omega) rfl (fun σ61 eσ61 => ?_)
                          refine dk_goto (tgt := 377) hE dX11_next_236 (by decide) ?_
                          have hz62 : σ61 141 3 = v4 := by rw [eσ61, dk_up_n (show ¬ (141 = 141 ∧ 3 = 8) by omega), hF156 141 3 (by omega), eσ36, dk_up_n (show ¬ (141 = 141 ∧ 3 = 10) by omega), hF119 141 3 (by omega), hv14]
                          have hz63 : σ61 141 4 = σ 141 4 := by rw [eσ61, dk_up_n (show ¬ (141 = 141 ∧ 4 = 8) by omega), hF156 141 4 (by omega), eσ36, dk_up_n (show ¬ (141 = 141 ∧ 4 = 10) by omega), hF119 141 4 (by omega), eσ12, dk_up_n (show ¬ (141 = 141 ∧ 4 = 7) by omega), hF8 141 4 (by omega), eσ2, dk_up_n (show ¬ (141 = 141 ∧ 4 = 6) by omega)]
                          have hz64 : σ61 141 6 = v3 := by rw [eσ61, dk_up_n (show ¬ (141 = 141 ∧ 6 = 8) by omega), hv41]
                          have hz65 : σ61 141 7 = v20 := by rw [eσ61, dk_up_n (show ¬ (141 = 141 ∧ 7 = 8) by omega), hv40]
                          have hz66 : σ61 141 8 = 1 := by rw [eσ61, dk_up_s]
                          exact dk_vret (st := []) hE hR dX11_next_377 ⟨rfl, (fun k_ j_ h_ => by rw [eσ61, dk_up_n (show ¬ (k_ = 141 ∧ j_ = 8) from fun q_ => h_ (Or.inr (Or.inr (Or.inl (q_))))), hF156 k_ j_ (fun w_ => h_ (Or.inr (Or.inr (Or.inr (Or.inr (w_)))))), eσ36, dk_up_n (show ¬ (k_ = 141 ∧ j_ = 10) from fun q_ => h_ (Or.inr (Or.inr (Or.inr (Or.inr (q_)))))), hF119 k_ j_ (fun w_ => h_ (Or.inr (Or.inl (w_)))), eσ12, dk_up_n (show ¬ (k_ = 141 ∧ j_ = 7) from fun q_ => h_ (Or.inr (Or.inl (q_)))), hF8 k_ j_ (fun w_ => h_ (Or.inl (w_))), eσ2, dk_up_n (show ¬ (k_ = 141 ∧ j_ = 6) from fun q_ => h_ (Or.inl (q_)))]), ⟨NY_of (by omega) (by omega) (by omega), by omega⟩⟩
                      · skip
                        refine dk_iload_n (pc' := 165) hE dX11_next_164 rfl rfl rfl ?_
                        refine dk_aload_n (pc' := 166) hE dX11_next_165 rfl rfl rfl ?_
                        refine gf_11_6 (pc' := 169) hE fl_X11_215 dX11_next_166 is_141 rfl (fun v67 hv67 htv67 hbv67 => ?_)
                        have hq67 : v3 = v67 := (show v67 = v3 by rw [hv67, hF156 141 6 (by omega), hv37]).symm
                        subst hq67
                        clear htv67 hbv67
                        refine dk_bipush (pc' := 171) hE dX11_next_169 (by decide) rfl ?_
                        obtain ⟨v68, hv68⟩ : ∃ z : Int, z = v3 + 8 := ⟨_, rfl⟩
                        refine dk_iadd (pc' := 172) hE dX11_next_171 hv68.symm (by omega) rfl ?_
                        refine dk_icmp_ge (tgt := 199) (pc' := 175) hE dX11_next_172 (by decide) rfl (fun hc69 => ?_) (fun hc69 => ?_)
                        · skip
                          refine dk_aload_n (pc' := 200) hE dX11_next_199 rfl rfl rfl ?_
                          refine dk_aload_n (pc' := 201) hE dX11_next_200 rfl rfl rfl ?_
                          refine gf_11_7 (pc' := 204) hE fl_X11_212 dX11_next_201 is_141 rfl (fun v70 hv70 htv70 hbv70 => ?_)
                          have hq70 : v20 = v70 := (show v70 = v20 by rw [hv70, hv38]).symm
                          subst hq70
                          clear htv70 hbv70
                          refine dk_aload_n (pc' := 205) hE dX11_next_204 rfl rfl rfl ?_
                          refine gf_11_6 (pc' := 208) hE fl_X11_215 dX11_next_205 is_141 rfl (fun v71 hv71 htv71 hbv71 => ?_)
                          have hq71 : v3 = v71 := (show v71 = v3 by rw [hv71, hv67]).symm
                          subst hq71
                          clear htv71 hbv71
                          obtain ⟨v72, hv72⟩ : ∃ z : Int, z = v20 - v3 := ⟨_, rfl⟩
                          refine dk_isub (pc' := 209) hE dX11_next_208 hv72.symm (by omega) rfl ?_
                          refine dk_bipush (pc' := 211) hE dX11_next_209 (by decide) rfl ?_
                          refine dk_icmp_le (tgt := 218) (pc' := 214) hE dX11_next_211 (by decide) rfl (fun hc73 => ?_) (fun hc73 => ?_)
                          · skip
                            refine dk_aload_n (pc' := 219) hE dX11_next_218 rfl rfl rfl ?_
                            refine gf_11_10 (pc' := 222) hE fl_X11_229 dX11_next_219 is_141 rfl (fun v74 hv74 htv74 hbv74 => ?_)
                            refine dk_cS (pc' := 225) (as := [(3, v74)]) hE lk_X11_233 (ct_X11_isKept l G hGd v74) dX11_next_222 rfl rfl (by decide) (Nat.le_of_ble_eq_true rfl) rfl rfl (fun r76 σ75 hr76 hor76 => ?_)
                            obtain ⟨v77, rfl, hfσ75, hpr76⟩ := hr76
                            have hsσ75 : σ156c = σ75 := (funext (fun k => funext (fun j => hfσ75 k j not_false))).symm
                            subst hsσ75
                            refine dk_if_eq (tgt := 232) (pc' := 228) hE dX11_next_225 (by decide) rfl (fun hc78 => ?_) (fun hc78 => ?_)
                            · skip
                              refine dk_iconst (pc' := 233) hE dX11_next_232 (by decide) rfl ?_
                              refine pf_11_8 (pc' := 236) hE fl_X11_222 dX11_next_233 is_141 (by omega) rfl (fun σ79 eσ79 => ?_)
                              refine dk_goto (tgt := 377) hE dX11_next_236 (by decide) ?_
                              have hz80 : σ79 141 3 = v4 := by rw [eσ79, dk_up_n (show ¬ (141 = 141 ∧ 3 = 8) by omega), hF156 141 3 (by omega), eσ36, dk_up_n (show ¬ (141 = 141 ∧ 3 = 10) by omega), hF119 141 3 (by omega), hv14]
                              have hz81 : σ79 141 4 = σ 141 4 := by rw [eσ79, dk_up_n (show ¬ (141 = 141 ∧ 4 = 8) by omega), hF156 141 4 (by omega), eσ36, dk_up_n (show ¬ (141 = 141 ∧ 4 = 10) by omega), hF119 141 4 (by omega), eσ12, dk_up_n (show ¬ (141 = 141 ∧ 4 = 7) by omega), hF8 141 4 (by omega), eσ2, dk_up_n (show ¬ (141 = 141 ∧ 4 = 6) by omega)]
                              have hz82 : σ79 141 6 = v3 := by rw [eσ79, dk_up_n (show ¬ (141 = 141 ∧ 6 = 8) by omega), hv71]
                              have hz83 : σ79 141 7 = v20 := by rw [eσ79, dk_up_n (show ¬ (141 = 141 ∧ 7 = 8) by omega), hv70]
                              have hz84 : σ79 141 8 = 2 := by rw [eσ79, dk_up_s]
                              exact dk_vret (st := []) hE hR dX11_next_377 ⟨rfl, (fun k_ j_ h_ => by rw [eσ79, dk_up_n (show ¬ (k_ = 141 ∧ j_ = 8) from fun q_ => h_ (Or.inr (Or.inr (Or.inl (q_))))), hF156 k_ j_ (fun w_ => h_ (Or.inr (Or.inr (Or.inr (Or.inr (w_)))))), eσ36, dk_up_n (show ¬ (k_ = 141 ∧ j_ = 10) from fun q_ => h_ (Or.inr (Or.inr (Or.inr (Or.inr (q_)))))), hF119 k_ j_ (fun w_ => h_ (Or.inr (Or.inl (w_)))), eσ12, dk_up_n (show ¬ (k_ = 141 ∧ j_ = 7) from fun q_ => h_ (Or.inr (Or.inl (q_)))), hF8 k_ j_ (fun w_ => h_ (Or.inl (w_))), eσ2, dk_up_n (show ¬ (k_ = 141 ∧ j_ = 6) from fun q_ => h_ (Or.inl (q_)))]), ⟨NY_of (by omega) (by omega) (by omega), by omega⟩⟩
                            · skip
                              refine dk_iconst (pc' := 229) hE dX11_next_228 (by decide) rfl ?_
                              refine dk_goto (tgt := 233) hE dX11_next_229 (by decide) ?_
                              refine pf_11_8 (pc' := 236) hE fl_X11_222 dX11_next_233 is_141 (by omega) rfl (fun σ85 eσ85 => ?_)
                              refine dk_goto (tgt := 377) hE dX11_next_236 (by decide) ?_
                              have hz86 : σ85 141 3 = v4 := by rw [eσ85, dk_up_n (show ¬ (141 = 141 ∧ 3 = 8) by omega), hF156 141 3 (by omega), eσ36, dk_up_n (show ¬ (141 = 141 ∧ 3 = 10) by omega), hF119 141 3 (by omega), hv14]
                              have hz87 : σ85 141 4 = σ 141 4 := by rw [eσ85, dk_up_n (show ¬ (141 = 141 ∧ 4 = 8) by omega), hF156 141 4 (by omega), eσ36, dk_up_n (show ¬ (141 = 141 ∧ 4 = 10) by omega), hF119 141 4 (by omega), eσ12, dk_up_n (show ¬ (141 = 141 ∧ 4 = 7) by omega), hF8 141 4 (by omega), eσ2, dk_up_n (show ¬ (141 = 141 ∧ 4 = 6) by omega)]
                              have hz88 : σ85 141 6 = v3 := by rw [eσ85, dk_up_n (show ¬ (141 = 141 ∧ 6 = 8) by omega), hv71]
                              have hz89 : σ85 141 7 = v20 := by rw [eσ85, dk_up_n (show ¬ (141 = 141 ∧ 7 = 8) by omega), hv70]
                              have hz90 : σ85 141 8 = 3 := by rw [eσ85, dk_up_s]
                              exact dk_vret (st := []) hE hR dX11_next_377 ⟨rfl, (fun k_ j_ h_ => by rw [eσ85, dk_up_n (show ¬ (k_ = 141 ∧ j_ = 8) from fun q_ => h_ (Or.inr (Or.inr (Or.inl (q_))))), hF156 k_ j_ (fun w_ => h_ (Or.inr (Or.inr (Or.inr (Or.inr (w_)))))), eσ36, dk_up_n (show ¬ (k_ = 141 ∧ j_ = 10) from fun q_ => h_ (Or.inr (Or.inr (Or.inr (Or.inr (q_)))))), hF119 k_ j_ (fun w_ => h_ (Or.inr (Or.inl (w_)))), eσ12, dk_up_n (show ¬ (k_ = 141 ∧ j_ = 7) from fun q_ => h_ (Or.inr (Or.inl (q_)))), hF8 k_ j_ (fun w_ => h_ (Or.inl (w_))), eσ2, dk_up_n (show ¬ (k_ = 141 ∧ j_ = 6) from fun q_ => h_ (Or.inl (q_)))]), ⟨NY_of (by omega) (by omega) (by omega), by omega⟩⟩
                          · skip
                            refine dk_iconst (pc' := 215) hE dX11_next_214 (by decide) rfl ?_
                            refine dk_goto (tgt := 233) hE dX11_next_215 (by decide) ?_
                            refine pf_11_8 (pc' := 236) hE fl_X11_222 dX11_next_233 is_141 (by omega) rfl (fun σ91 eσ91 => ?_)
                            refine dk_goto (tgt := 377) hE dX11_next_236 (by decide) ?_
                            have hz92 : σ91 141 3 = v4 := by rw [eσ91, dk_up_n (show ¬ (141 = 141 ∧ 3 = 8) by omega), hF156 141 3 (by omega), eσ36, dk_up_n (show ¬ (141 = 141 ∧ 3 = 10) by omega), hF119 141 3 (by omega), hv14]
                            have hz93 : σ91 141 4 = σ 141 4 := by rw [eσ91, dk_up_n (show ¬ (141 = 141 ∧ 4 = 8) by omega), hF156 141 4 (by omega), eσ36, dk_up_n (show ¬ (141 = 141 ∧ 4 = 10) by omega), hF119 141 4 (by omega), eσ12, dk_up_n (show ¬ (141 = 141 ∧ 4 = 7) by omega), hF8 141 4 (by omega), eσ2, dk_up_n (show ¬ (141 = 141 ∧ 4 = 6) by omega)]
                            have hz94 : σ91 141 6 = v3 := by rw [eσ91, dk_up_n (show ¬ (141 = 141 ∧ 6 = 8) by omega), hv71]
                            have hz95 : σ91 141 7 = v20 := by rw [eσ91, dk_up_n (show ¬ (141 = 141 ∧ 7 = 8) by omega), hv70]
                            have hz96 : σ91 141 8 = 1 := by rw [eσ91, dk_up_s]
                            exact dk_vret (st := []) hE hR dX11_next_377 ⟨rfl, (fun k_ j_ h_ => by rw [eσ91, dk_up_n (show ¬ (k_ = 141 ∧ j_ = 8) from fun q_ => h_ (Or.inr (Or.inr (Or.inl (q_))))), hF156 k_ j_ (fun w_ => h_ (Or.inr (Or.inr (Or.inr (Or.inr (w_)))))), eσ36, dk_up_n (show ¬ (k_ = 141 ∧ j_ = 10) from fun q_ => h_ (Or.inr (Or.inr (Or.inr (Or.inr (q_)))))), hF119 k_ j_ (fun w_ => h_ (Or.inr (Or.inl (w_)))), eσ12, dk_up_n (show ¬ (k_ = 141 ∧ j_ = 7) from fun q_ => h_ (Or.inr (Or.inl (q_)))), hF8 k_ j_ (fun w_ => h_ (Or.inl (w_))), eσ2, dk_up_n (show ¬ (k_ = 141 ∧ j_ = 6) from fun q_ => h_ (Or.inl (q_)))]), ⟨NY_of (by omega) (by omega) (by omega), by omega⟩⟩
                        · skip
                          refine dk_aload_n (pc' := 176) hE dX11_next_175 rfl rfl rfl ?_
                          refine dk_aload_n (pc' := 177) hE dX11_next_176 rfl rfl rfl ?_
                          refine gf_11_10 (pc' := 180) hE fl_X11_229 dX11_next_177 is_141 rfl (fun v97 hv97 htv97 hbv97 => ?_)
                          refine dk_bipush (pc' := 182) hE dX11_next_180 (by decide) rfl ?_
                          refine dk_lshl (pc' := 183) hE dX11_next_182 rfl (fun v98 hv98 => ?_)
                          refine dk_aload_n (pc' := 184) hE dX11_next_183 rfl rfl rfl ?_
                          refine dk_iload_n (pc' := 185) hE dX11_next_184 rfl rfl rfl ?_
                          refine dk_cV (pc' := 188) (as := [(0, k)]) hE lk_X11_218 (ct_X11_sign l G hGd k) dX11_next_185 rfl is_141 rfl (by decide) (Nat.le_of_ble_eq_true rfl) ⟨rfl, (by omega)⟩ rfl (fun r100 σ99 hr100 hor100 => ?_)
                          obtain ⟨v101, rfl, hfσ99, hpr100⟩ := hr100
                          have hsσ99 : σ156c = σ99 := (funext (fun k => funext (fun j => hfσ99 k j not_false))).symm
                          subst hsσ99
                          refine dk_i2l (pc' := 189) hE dX11_next_188 rfl ?_
                          refine dk_lor (pc' := 190) hE dX11_next_189 rfl (fun v102 hv102 => ?_)
                          refine pf_11_10 (pc' := 193) hE fl_X11_229 dX11_next_190 is_141 trivial rfl (fun σ103 eσ103 => ?_)
                          obtain ⟨v104, hv104⟩ : ∃ z : Int, z = k + 1 := ⟨_, rfl⟩
                          refine dk_iinc (pc' := 196) (ls' := [(4, 141), (0, v9), (0, v104)]) hE dX11_next_193 rfl hv104.symm (by omega) rfl (by decide) rfl ?_
                          refine dk_goto (tgt := 156) hE dX11_next_196 (by decide) ?_
                          have hz104_141_6 := (show σ103 141 6 = _ by rw [eσ103, dk_up_n (show ¬ (141 = 141 ∧ 6 = 10) by omega)])
                          have hz105_141_7 := (show σ103 141 7 = _ by rw [eσ103, dk_up_n (show ¬ (141 = 141 ∧ 7 = 10) by omega)])
                          have hz106_141_3 := (show σ103 141 3 = _ by rw [eσ103, dk_up_n (show ¬ (141 = 141 ∧ 3 = 10) by omega)])
                          have hz107_141_4 := (show σ103 141 4 = _ by rw [eσ103, dk_up_n (show ¬ (141 = 141 ∧ 4 = 10) by omega)])
                          exact ih156 v104 σ103 (by omega) (fun k_ j_ h_ => by rw [eσ103, dk_up_n (show ¬ (k_ = 141 ∧ j_ = 10) from fun q_ => h_ (q_)), hF156 k_ j_ (fun w_ => h_ (w_))]) (by omega) (by omega) (by omega)
                  have hz109 : σ36 141 6 = v3 := by rw [hv37]
                  have hz110 : σ36 141 7 = v20 := by rw [eσ36, dk_up_n (show ¬ (141 = 141 ∧ 7 = 10) by omega), hv20]
                  have hz111 : σ36 141 7 = v20 := by rw [eσ36, dk_up_n (show ¬ (141 = 141 ∧ 7 = 10) by omega), hv20]
                  have hz112 : σ36 141 6 = v3 := by rw [hv37]
                  have hz113 : σ36 141 3 = v4 := by rw [eσ36, dk_up_n (show ¬ (141 = 141 ∧ 3 = 10) by omega), hF119 141 3 (by omega), hv14]
                  have hz114 : σ36 141 4 = σ 141 4 := by rw [eσ36, dk_up_n (show ¬ (141 = 141 ∧ 4 = 10) by omega), hF119 141 4 (by omega), eσ12, dk_up_n (show ¬ (141 = 141 ∧ 4 = 7) by omega), hF8 141 4 (by omega), eσ2, dk_up_n (show ¬ (141 = 141 ∧ 4 = 6) by omega)]
                  exact lp156 _ v3 σ36 (Nat.lt_succ_self _) (fun k_ j_ h_ => rfl) (by omega) (by omega) (by omega)
            have hz119 : σ12 141 6 = v3 := by rw [hv13]
            have hz120 : σ12 141 7 = v11 := by rw [eσ12, dk_up_s]
            have hz121 : σ12 141 7 = v11 := by rw [eσ12, dk_up_s]
            have hz122 : σ12 141 6 = v3 := by rw [hv13]
            have hz123 : σ12 141 3 = v4 := by rw [hv14]
            have hz124 : σ12 141 4 = σ 141 4 := by rw [eσ12, dk_up_n (show ¬ (141 = 141 ∧ 4 = 7) by omega), hF8 141 4 (by omega), eσ2, dk_up_n (show ¬ (141 = 141 ∧ 4 = 6) by omega)]
            have hz125 : σ12 141 7 = v11 := by rw [eσ12, dk_up_s]
            have hz126_141_7 : σ12 141 7 = v11 := by rw [eσ12, dk_up_s]
            exact lp119 _ σ12 (Nat.lt_succ_self _) (fun k_ j_ h_ => rfl) (by omega) (by omega)
          · skip
            refine dk_if_eq (tgt := 239) (pc' := 119) hE dX11_next_116 (by decide) rfl (fun hc130 => ?_) (fun hc130 => absurd hc130 (by decide))
            refine dk_iload_n (pc' := 240) hE dX11_next_239 rfl rfl rfl ?_
            refine dk_cS (pc' := 243) (as := [(0, v9)]) hE lk_X11_237 (ct_X11_isDigit l G hGd v9) dX11_next_240 rfl rfl (by decide) (Nat.le_of_ble_eq_true rfl) rfl rfl (fun r132 σ131 hr132 hor132 => ?_)
            obtain ⟨v133, rfl, hfσ131, hpr132⟩ := hr132
            have hsσ131 : σ12 = σ131 := (funext (fun k => funext (fun j => hfσ131 k j not_false))).symm
            subst hsσ131
            rcases hpr132 with ⟨rfl, hpr132⟩ | ⟨rfl, hpr132⟩
            · skip
              refine dk_if_eq (tgt := 361) (pc' := 246) hE dX11_next_243 (by decide) rfl (fun hc134 => absurd hc134 (by decide)) (fun hc134 => ?_)
              refine dk_aload_n (pc' := 247) hE dX11_next_246 rfl rfl rfl ?_
              refine dk_iconst (pc' := 248) hE dX11_next_247 (by decide) rfl ?_
              refine pf_11_9 (pc' := 251) hE fl_X11_240 dX11_next_248 is_141 (by omega) rfl (fun σ135 eσ135 => ?_)
              refine dk_aload_n (pc' := 252) hE dX11_next_251 rfl rfl rfl ?_
              refine dk_aload_n (pc' := 253) hE dX11_next_252 rfl rfl rfl ?_
              refine gf_11_6 (pc' := 256) hE fl_X11_215 dX11_next_253 is_141 rfl (fun v136 hv136 htv136 hbv136 => ?_)
              have hq136 : v3 = v136 := (show v136 = v3 by rw [hv136, eσ135, dk_up_n (show ¬ (141 = 141 ∧ 6 = 9) by omega), hv13]).symm
              subst hq136
              clear htv136 hbv136
              refine pf_11_7 (pc' := 259) hE fl_X11_212 dX11_next_256 is_141 (by omega) rfl (fun σ137 eσ137 => ?_)
              refine dk_aload_n (pc' := 260) hE dX11_next_259 rfl rfl rfl ?_
              refine dk_aload_n (pc' := 261) hE dX11_next_260 rfl rfl rfl ?_
              refine gf_11_7 (pc' := 264) hE fl_X11_212 dX11_next_261 is_141 rfl (fun v138 hv138 htv138 hbv138 => ?_)
              have hq138 : v3 = v138 := (show v138 = v3 by rw [hv138, eσ137, dk_up_s]).symm
              subst hq138
              clear htv138 hbv138
              have hn141 : tsg σ137 v3 = tsg σ8c v3 := by rw [eσ137, tsg_up (by decide) (by decide), eσ135, tsg_up (by decide) (by decide), eσ12, tsg_up (by decide) (by decide)]
              refine dk_cV (pc' := 267) (as := [(0, v3)]) hE lk_X11_218 (ct_X11_sign l G hGd v3) dX11_next_264 rfl is_141 rfl (by decide) (Nat.le_of_ble_eq_true rfl) ⟨rfl, (by omega)⟩ rfl (fun r140 σ139 hr140 hor140 => ?_)
              obtain ⟨v142, rfl, hfσ139, hpr140⟩ := hr140
              have hsσ139 : σ137 = σ139 := (funext (fun k => funext (fun j => hfσ139 k j not_false))).symm
              subst hsσ139
              refine dk_cS (pc' := 270) (as := [(0, v142)]) hE lk_X11_237 (ct_X11_isDigit l G hGd v142) dX11_next_267 rfl rfl (by decide) (Nat.le_of_ble_eq_true rfl) rfl rfl (fun r144 σ143 hr144 hor144 => ?_)
              obtain ⟨v145, rfl, hfσ143, hpr144⟩ := hr144
              have hsσ143 : σ137 = σ143 := (funext (fun k => funext (fun j => hfσ143 k j not_false))).symm
              subst hsσ143
              rcases hpr144 with ⟨rfl, hpr144⟩ | ⟨rfl, hpr144⟩
              · skip
                refine dk_if_eq (tgt := 322) (pc' := 273) hE dX11_next_270 (by decide) rfl (fun hc146 => absurd hc146 (by decide)) (fun hc146 => ?_)
                refine dk_aload_n (pc' := 274) hE dX11_next_273 rfl rfl rfl ?_
                refine gf_11_7 (pc' := 277) hE fl_X11_212 dX11_next_274 is_141 rfl (fun v147 hv147 htv147 hbv147 => ?_)
                have hq147 : v3 = v147 := (show v147 = v3 by rw [hv147, hv138]).symm
                subst hq147
                clear htv147 hbv147
                refine dk_aload_n (pc' := 278) hE dX11_next_277 rfl rfl rfl ?_
                refine gf_11_6 (pc' := 281) hE fl_X11_215 dX11_next_278 is_141 rfl (fun v148 hv148 htv148 hbv148 => ?_)
                have hq148 : v3 = v148 := (show v148 = v3 by rw [hv148, eσ137, dk_up_n (show ¬ (141 = 141 ∧ 6 = 7) by omega), hv136]).symm
                subst hq148
                clear htv148 hbv148
                obtain ⟨v149, hv149⟩ : ∃ z : Int, z = v3 - v3 := ⟨_, rfl⟩
                refine dk_isub (pc' := 282) hE dX11_next_281 hv149.symm (by omega) rfl ?_
                refine dk_iconst (pc' := 283) hE dX11_next_282 (by decide) rfl ?_
                refine dk_icmp_ge (tgt := 309) (pc' := 286) hE dX11_next_283 (by decide) rfl (fun hc150 => ?_) (fun hc150 => ?_)
                · skip
                  refine dk_aload_n (pc' := 310) hE dX11_next_309 rfl rfl rfl ?_
                  refine dk_dup (pc' := 311) hE dX11_next_310 (show (4 : Nat) ≠ 3 by decide) rfl ?_
                  refine gf_11_7 (pc' := 314) hE fl_X11_212 dX11_next_311 is_141 rfl (fun v151 hv151 htv151 hbv151 => ?_)
                  have hq151 : v3 = v151 := (show v151 = v3 by rw [hv151, hv147]).symm
                  subst hq151
                  clear htv151 hbv151
                  refine dk_iconst (pc' := 315) hE dX11_next_314 (by decide) rfl ?_
                  obtain ⟨v152, hv152⟩ : ∃ z : Int, z = v3 + 1 := ⟨_, rfl⟩
                  refine dk_iadd (pc' := 316) hE dX11_next_315 hv152.symm (by omega) rfl ?_
                  refine pf_11_7 (pc' := 319) hE fl_X11_212 dX11_next_316 is_141 (by omega) rfl (fun σ153 eσ153 => ?_)
                  refine dk_goto (tgt := 259) hE dX11_next_319 (by decide) ?_
                  have lp259 : ∀ (N_ : Nat) (σ259c : dkS), (1402 - σ259c 141 7).toNat < N_ → ((∀ k_ j_ : Int, ¬ ((k_ = 141 ∧ j_ = 7) ∨ (k_ = 141 ∧ j_ = 9)) → σ259c k_ j_ = σ153 k_ j_)) → (σ259c 141 6 < σ259c 141 7 ∧ σ259c 141 7 ≤ σ 141 3 ∧ σ 141 7 ≤ σ259c 141 6) → (σ259c 141 3 = σ 141 3 ∧ σ259c 141 4 = σ 141 4) → ((σ259c 141 7 - σ259c 141 6 = 1 ∧ σ259c 141 9 ≤ 9) ∨ (σ259c 141 7 - σ259c 141 6 = 2 ∧ σ259c 141 9 ≤ 99) ∨ (σ259c 141 7 - σ259c 141 6 = 3 ∧ σ259c 141 9 ≤ 999) ∨ 4 ≤ σ259c 141 7 - σ259c 141 6) → dk_PJ E 259 [(4, 141), (0, v9), (9, 0)] [] 190 σ259c := by
                    intro N259
                    induction N259 with
                    | zero => intro  σ259c hm; exact absurd hm (Nat.not_lt_zero _)
                    | succ N259 ih259 =>
                      intro  σ259c hm259 hF259 hd hs6 hn
                      refine dk_aload_n (pc' := 260) hE dX11_next_259 rfl rfl rfl ?_
                      refine dk_aload_n (pc' := 261) hE dX11_next_260 rfl rfl rfl ?_
                      refine gf_11_7 (pc' := 264) hE fl_X11_212 dX11_next_261 is_141 rfl (fun v154 hv154 htv154 hbv154 => ?_)
                      refine dk_cV (pc' := 267) (as := [(0, v154)]) hE lk_X11_218 (ct_X11_sign l G hGd v154) dX11_next_264 rfl is_141 rfl (by decide) (Nat.le_of_ble_eq_true rfl) ⟨rfl, (by omega)⟩ rfl (fun r156 σ155 hr156 hor156 => ?_)
                      obtain ⟨v157, rfl, hfσ155, hpr156⟩ := hr156
                      have hsσ155 : σ259c = σ155 := (funext (fun k => funext (fun j => hfσ155 k j not_false))).symm
                      subst hsσ155
                      refine dk_cS (pc' := 270) (as := [(0, v157)]) hE lk_X11_237 (ct_X11_isDigit l G hGd v157) dX11_next_267 rfl rfl (by decide) (Nat.le_of_ble_eq_true rfl) rfl rfl (fun r159 σ158 hr159 hor159 => ?_)
                      obtain ⟨v160, rfl, hfσ158, hpr159⟩ := hr159
                      have hsσ158 : σ259c = σ158 := (funext (fun k => funext (fun j => hfσ158 k j not_false))).symm
                      subst hsσ158
                      rcases hpr159 with ⟨rfl, hpr159⟩ | ⟨rfl, hpr159⟩
                      · skip
                        refine dk_if_eq (tgt := 322) (pc' := 273) hE dX11_next_270 (by decide) rfl (fun hc161 => absurd hc161 (by decide)) (fun hc161 => ?_)
                        refine dk_aload_n (pc' := 274) hE dX11_next_273 rfl rfl rfl ?_
                        refine gf_11_7 (pc' := 277) hE fl_X11_212 dX11_next_274 is_141 rfl (fun v162 hv162 htv162 hbv162 => ?_)
                        have hq162 : v154 = v162 := (show v162 = v154 by rw [hv162, hv154]).symm
                        subst hq162
                        clear htv162 hbv162
                        refine dk_aload_n (pc' := 278) hE dX11_next_277 rfl rfl rfl ?_
                        refine gf_11_6 (pc' := 281) hE fl_X11_215 dX11_next_278 is_141 rfl (fun v163 hv163 htv163 hbv163 => ?_)
                        have hq163 : v3 = v163 := (show v163 = v3 by rw [hv163, hF259 141 6 (by omega), eσ153, dk_up_n (show ¬ (141 = 141 ∧ 6 = 7) by omega), hv148]).symm
                        subst hq163
                        clear htv163 hbv163
                        obtain ⟨v164, hv164⟩ : ∃ z : Int, z = v154 - v3 := ⟨_, rfl⟩
                        refine dk_isub (pc' := 282) hE dX11_next_281 hv164.symm (by omega) rfl ?_
                        refine dk_iconst (pc' := 283) hE dX11_next_282 (by decide) rfl ?_
                        refine dk_icmp_ge (tgt := 309) (pc' := 286) hE dX11_next_283 (by decide) rfl (fun hc165 => ?_) (fun hc165 => ?_)
                        · skip
                          refine dk_aload_n (pc' := 310) hE dX11_next_309 rfl rfl rfl ?_
                          refine dk_dup (pc' := 311) hE dX11_next_310 (show (4 : Nat) ≠ 3 by decide) rfl ?_
                          refine gf_11_7 (pc' := 314) hE fl_X11_212 dX11_next_311 is_141 rfl (fun v166 hv166 htv166 hbv166 => ?_)
                          have hq166 : v154 = v166 := (show v166 = v154 by rw [hv166, hv162]).symm
                          subst hq166
                          clear htv166 hbv166
                          refine dk_iconst (pc' := 315) hE dX11_next_314 (by decide) rfl ?_
                          obtain ⟨v167, hv167⟩ : ∃ z : Int, z = v154 + 1 := ⟨_, rfl⟩
                          refine dk_iadd (pc' := 316) hE dX11_next_315 hv167.symm (by omega) rfl ?_
                          refine pf_11_7 (pc' := 319) hE fl_X11_212 dX11_next_316 is_141 (by omega) rfl (fun σ168 eσ168 => ?_)
                          refine dk_goto (tgt := 259) hE dX11_next_319 (by decide) ?_
                          have hz168_141_6 := (show σ168 141 6 = _ by rw [eσ168, dk_up_n (show ¬ (141 = 141 ∧ 6 = 7) by omega)])
                          have hz169_141_7 : σ168 141 7 = v167 := by rw [eσ168, dk_up_s]
                          have hz170_141_3 := (show σ168 141 3 = _ by rw [eσ168, dk_up_n (show ¬ (141 = 141 ∧ 3 = 7) by omega)])
                          have hz171_141_4 := (show σ168 141 4 = _ by rw [eσ168, dk_up_n (show ¬ (141 = 141 ∧ 4 = 7) by omega)])
                          have hz172_141_9 := (show σ168 141 9 = _ by rw [eσ168, dk_up_n (show ¬ (141 = 141 ∧ 9 = 7) by omega)])
                          exact ih259 σ168 (by omega) (fun k_ j_ h_ => by rw [eσ168, dk_up_n (show ¬ (k_ = 141 ∧ j_ = 7) from fun q_ => h_ (Or.inl (q_))), hF259 k_ j_ (fun w_ => h_ (w_.elim (fun x0_ => Or.inl (x0_)) (fun y0_ => Or.inr (y0_))))]) (by omega) (by omega) (by omega)
                        · skip
                          refine dk_aload_n (pc' := 287) hE dX11_next_286 rfl rfl rfl ?_
                          refine dk_bipush (pc' := 289) hE dX11_next_287 (by decide) rfl ?_
                          refine dk_aload_n (pc' := 290) hE dX11_next_289 rfl rfl rfl ?_
                          refine gf_11_9 (pc' := 293) hE fl_X11_240 dX11_next_290 is_141 rfl (fun v174 hv174 htv174 hbv174 => ?_)
                          obtain ⟨v175, hv175⟩ : ∃ z : Int, z = 10 * v174 := ⟨_, rfl⟩
                          refine dk_imul (pc' := 294) hE dX11_next_293 hv175.symm (by omega) rfl ?_
                          refine dk_aload_n (pc' := 295) hE dX11_next_294 rfl rfl rfl ?_
                          refine dk_aload_n (pc' := 296) hE dX11_next_295 rfl rfl rfl ?_
                          refine gf_11_7 (pc' := 299) hE fl_X11_212 dX11_next_296 is_141 rfl (fun v176 hv176 htv176 hbv176 => ?_)
                          have hq176 : v154 = v176 := (show v176 = v154 by rw [hv176, hv162]).symm
                          subst hq176
                          clear htv176 hbv176
                          refine dk_cV (pc' := 302) (as := [(0, v154)]) hE lk_X11_218 (ct_X11_sign l G hGd v154) dX11_next_299 rfl is_141 rfl (by decide) (Nat.le_of_ble_eq_true rfl) ⟨rfl, (by omega)⟩ rfl (fun r178 σ177 hr178 hor178 => ?_)
                          obtain ⟨v179, rfl, hfσ177, hpr178⟩ := hr178
                          have hsσ177 : σ259c = σ177 := (funext (fun k => funext (fun j => hfσ177 k j not_false))).symm
                          subst hsσ177
                          obtain ⟨v180, hv180⟩ : ∃ z : Int, z = v175 + v179 := ⟨_, rfl⟩
                          refine dk_iadd (pc' := 303) hE dX11_next_302 hv180.symm (by omega) rfl ?_
                          refine dk_bipush (pc' := 305) hE dX11_next_303 (by decide) rfl ?_
                          obtain ⟨v181, hv181⟩ : ∃ z : Int, z = v180 - 48 := ⟨_, rfl⟩
                          refine dk_isub (pc' := 306) hE dX11_next_305 hv181.symm (by omega) rfl ?_
                          refine pf_11_9 (pc' := 309) hE fl_X11_240 dX11_next_306 is_141 (by omega) rfl (fun σ182 eσ182 => ?_)
                          refine dk_aload_n (pc' := 310) hE dX11_next_309 rfl rfl rfl ?_
                          refine dk_dup (pc' := 311) hE dX11_next_310 (show (4 : Nat) ≠ 3 by decide) rfl ?_
                          refine gf_11_7 (pc' := 314) hE fl_X11_212 dX11_next_311 is_141 rfl (fun v183 hv183 htv183 hbv183 => ?_)
                          have hq183 : v154 = v183 := (show v183 = v154 by rw [hv183, eσ182, dk_up_n (show ¬ (141 = 141 ∧ 7 = 9) by omega), hv176]).symm
                          subst hq183
                          clear htv183 hbv183
                          refine dk_iconst (pc' := 315) hE dX11_next_314 (by decide) rfl ?_
                          obtain ⟨v184, hv184⟩ : ∃ z : Int, z = v154 + 1 := ⟨_, rfl⟩
                          refine dk_iadd (pc' := 316) hE dX11_next_315 hv184.symm (by omega) rfl ?_
                          refine pf_11_7 (pc' := 319) hE fl_X11_212 dX11_next_316 is_141 (by omega) rfl (fun σ185 eσ185 => ?_)
                          refine dk_goto (tgt := 259) hE dX11_next_319 (by decide) ?_
                          have hz185_141_6 := (show σ185 141 6 = _ by rw [eσ185, dk_up_n (show ¬ (141 = 141 ∧ 6 = 7) by omega), eσ182, dk_up_n (show ¬ (141 = 141 ∧ 6 = 9) by omega)])
                          have hz186_141_7 : σ185 141 7 = v184 := by rw [eσ185, dk_up_s]
                          have hz187_141_3 := (show σ185 141 3 = _ by rw [eσ185, dk_up_n (show ¬ (141 = 141 ∧ 3 = 7) by omega), eσ182, dk_up_n (show ¬ (141 = 141 ∧ 3 = 9) by omega)])
                          have hz188_141_4 := (show σ185 141 4 = _ by rw [eσ185, dk_up_n (show ¬ (141 = 141 ∧ 4 = 7) by omega), eσ182, dk_up_n (show ¬ (141 = 141 ∧ 4 = 9) by omega)])
                          have hz189_141_9 : σ185 141 9 = v181 := by rw [eσ185, dk_up_n (show ¬ (141 = 141 ∧ 9 = 7) by omega), eσ182, dk_up_s]
                          exact ih259 σ185 (by omega) (fun k_ j_ h_ => by rw [eσ185, dk_up_n (show ¬ (k_ = 141 ∧ j_ = 7) from fun q_ => h_ (Or.inl (q_))), eσ182, dk_up_n (show ¬ (k_ = 141 ∧ j_ = 9) from fun q_ => h_ (Or.inr (q_))), hF259 k_ j_ (fun w_ => h_ (w_.elim (fun x0_ => Or.inl (x0_)) (fun y0_ => Or.inr (y0_))))]) (by omega) (by omega) (by omega)
                      · skip
                        refine dk_if_eq (tgt := 322) (pc' := 273) hE dX11_next_270 (by decide) rfl (fun hc191 => ?_) (fun hc191 => absurd hc191 (by decide))
                        refine dk_aload_n (pc' := 323) hE dX11_next_322 rfl rfl rfl ?_
                        refine dk_aload_n (pc' := 324) hE dX11_next_323 rfl rfl rfl ?_
                        refine gf_11_7 (pc' := 327) hE fl_X11_212 dX11_next_324 is_141 rfl (fun v192 hv192 htv192 hbv192 => ?_)
                        have hq192 : v154 = v192 := (show v192 = v154 by rw [hv192, hv154]).symm
                        subst hq192
                        clear htv192 hbv192
                        refine dk_aload_n (pc' := 328) hE dX11_next_327 rfl rfl rfl ?_
                        refine gf_11_6 (pc' := 331) hE fl_X11_215 dX11_next_328 is_141 rfl (fun v193 hv193 htv193 hbv193 => ?_)
                        have hq193 : v3 = v193 := (show v193 = v3 by rw [hv193, hF259 141 6 (by omega), eσ153, dk_up_n (show ¬ (141 = 141 ∧ 6 = 7) by omega), hv148]).symm
                        subst hq193
                        clear htv193 hbv193
                        obtain ⟨v194, hv194⟩ : ∃ z : Int, z = v154 - v3 := ⟨_, rfl⟩
                        refine dk_isub (pc' := 332) hE dX11_next_331 hv194.symm (by omega) rfl ?_
                        refine dk_iconst (pc' := 333) hE dX11_next_332 (by decide) rfl ?_
                        refine dk_icmp_gt (tgt := 350) (pc' := 336) hE dX11_next_333 (by decide) rfl (fun hc195 => ?_) (fun hc195 => ?_)
                        · skip
                          refine dk_iconst (pc' := 351) hE dX11_next_350 (by decide) rfl ?_
                          refine dk_goto (tgt := 355) hE dX11_next_351 (by decide) ?_
                          refine pf_11_8 (pc' := 358) hE fl_X11_222 dX11_next_355 is_141 (by omega) rfl (fun σ196 eσ196 => ?_)
                          refine dk_goto (tgt := 377) hE dX11_next_358 (by decide) ?_
                          have hz197 : σ196 141 3 = v4 := by rw [eσ196, dk_up_n (show ¬ (141 = 141 ∧ 3 = 8) by omega), hF259 141 3 (by omega), eσ153, dk_up_n (show ¬ (141 = 141 ∧ 3 = 7) by omega), eσ137, dk_up_n (show ¬ (141 = 141 ∧ 3 = 7) by omega), eσ135, dk_up_n (show ¬ (141 = 141 ∧ 3 = 9) by omega), hv14]
                          have hz198 : σ196 141 4 = σ 141 4 := by rw [eσ196, dk_up_n (show ¬ (141 = 141 ∧ 4 = 8) by omega), hF259 141 4 (by omega), eσ153, dk_up_n (show ¬ (141 = 141 ∧ 4 = 7) by omega), eσ137, dk_up_n (show ¬ (141 = 141 ∧ 4 = 7) by omega), eσ135, dk_up_n (show ¬ (141 = 141 ∧ 4 = 9) by omega), eσ12, dk_up_n (show ¬ (141 = 141 ∧ 4 = 7) by omega), hF8 141 4 (by omega), eσ2, dk_up_n (show ¬ (141 = 141 ∧ 4 = 6) by omega)]
                          have hz199 : σ196 141 6 = v3 := by rw [eσ196, dk_up_n (show ¬ (141 = 141 ∧ 6 = 8) by omega), hv193]
                          have hz200 : σ196 141 7 = v154 := by rw [eσ196, dk_up_n (show ¬ (141 = 141 ∧ 7 = 8) by omega), hv192]
                          have hz201 : σ196 141 8 = 1 := by rw [eσ196, dk_up_s]
                          exact dk_vret (st := []) hE hR dX11_next_377 ⟨rfl, (fun k_ j_ h_ => by rw [eσ196, dk_up_n (show ¬ (k_ = 141 ∧ j_ = 8) from fun q_ => h_ (Or.inr (Or.inr (Or.inl (q_))))), hF259 k_ j_ (fun w_ => h_ (w_.elim (fun x0_ => Or.inr (Or.inl (x0_))) (fun y0_ => Or.inr (Or.inr (Or.inr (Or.inl (y0_))))))), eσ153, dk_up_n (show ¬ (k_ = 141 ∧ j_ = 7) from fun q_ => h_ (Or.inr (Or.inl (q_)))), eσ137, dk_up_n (show ¬ (k_ = 141 ∧ j_ = 7) from fun q_ => h_ (Or.inr (Or.inl (q_)))), eσ135, dk_up_n (show ¬ (k_ = 141 ∧ j_ = 9) from fun q_ => h_ (Or.inr (Or.inr (Or.inr (Or.inl (q_)))))), eσ12, dk_up_n (show ¬ (k_ = 141 ∧ j_ = 7) from fun q_ => h_ (Or.inr (Or.inl (q_)))), hF8 k_ j_ (fun w_ => h_ (Or.inl (w_))), eσ2, dk_up_n (show ¬ (k_ = 141 ∧ j_ = 6) from fun q_ => h_ (Or.inl (q_)))]), ⟨NY_of (by omega) (by omega) (by omega), by omega⟩⟩
                        · skip
                          refine dk_aload_n (pc' := 337) hE dX11_next_336 rfl rfl rfl ?_
                          refine dk_aload_n (pc' := 338) hE dX11_next_337 rfl rfl rfl ?_
                          refine gf_11_7 (pc' := 341) hE fl_X11_212 dX11_next_338 is_141 rfl (fun v202 hv202 htv202 hbv202 => ?_)
                          have hq202 : v154 = v202 := (show v202 = v154 by rw [hv202, hv192]).symm
                          subst hq202
                          clear htv202 hbv202
                          refine dk_cV (pc' := 344) (as := [(0, v154)]) hE lk_X11_218 (ct_X11_sign l G hGd v154) dX11_next_341 rfl is_141 rfl (by decide) (Nat.le_of_ble_eq_true rfl) ⟨rfl, (by omega)⟩ rfl (fun r204 σ203 hr204 hor204 => ?_)
                          obtain ⟨v205, rfl, hfσ203, hpr204⟩ := hr204
                          have hsσ203 : σ259c = σ203 := (funext (fun k => funext (fun j => hfσ203 k j not_false))).symm
                          subst hsσ203
                          refine dk_cS (pc' := 347) (as := [(0, v205)]) hE lk_X11_225 (ct_X11_isLetter l G hGd v205) dX11_next_344 rfl rfl (by decide) (Nat.le_of_ble_eq_true rfl) rfl rfl (fun r207 σ206 hr207 hor207 => ?_)
                          obtain ⟨v208, rfl, hfσ206, hpr207⟩ := hr207
                          have hsσ206 : σ259c = σ206 := (funext (fun k => funext (fun j => hfσ206 k j not_false))).symm
                          subst hsσ206
                          rcases hpr207 with ⟨rfl, hpr207⟩ | ⟨rfl, hpr207⟩
                          · skip
                            refine dk_if_eq (tgt := 354) (pc' := 350) hE dX11_next_347 (by decide) rfl (fun hc209 => absurd hc209 (by decide)) (fun hc209 => ?_)
                            refine dk_iconst (pc' := 351) hE dX11_next_350 (by decide) rfl ?_
                            refine dk_goto (tgt := 355) hE dX11_next_351 (by decide) ?_
                            refine pf_11_8 (pc' := 358) hE fl_X11_222 dX11_next_355 is_141 (by omega) rfl (fun σ210 eσ210 => ?_)
                            refine dk_goto (tgt := 377) hE dX11_next_358 (by decide) ?_
                            have hz211 : σ210 141 3 = v4 := by rw [eσ210, dk_up_n (show ¬ (141 = 141 ∧ 3 = 8) by omega), hF259 141 3 (by omega), eσ153, dk_up_n (show ¬ (141 = 141 ∧ 3 = 7) by omega), eσ137, dk_up_n (show ¬ (141 = 141 ∧ 3 = 7) by omega), eσ135, dk_up_n (show ¬ (141 = 141 ∧ 3 = 9) by omega), hv14]
                            have hz212 : σ210 141 4 = σ 141 4 := by rw [eσ210, dk_up_n (show ¬ (141 = 141 ∧ 4 = 8) by omega), hF259 141 4 (by omega), eσ153, dk_up_n (show ¬ (141 = 141 ∧ 4 = 7) by omega), eσ137, dk_up_n (show ¬ (141 = 141 ∧ 4 = 7) by omega), eσ135, dk_up_n (show ¬ (141 = 141 ∧ 4 = 9) by omega), eσ12, dk_up_n (show ¬ (141 = 141 ∧ 4 = 7) by omega), hF8 141 4 (by omega), eσ2, dk_up_n (show ¬ (141 = 141 ∧ 4 = 6) by omega)]
                            have hz213 : σ210 141 6 = v3 := by rw [eσ210, dk_up_n (show ¬ (141 = 141 ∧ 6 = 8) by omega), hv193]
                            have hz214 : σ210 141 7 = v154 := by rw [eσ210, dk_up_n (show ¬ (141 = 141 ∧ 7 = 8) by omega), hv202]
                            have hz215 : σ210 141 8 = 1 := by rw [eσ210, dk_up_s]
                            exact dk_vret (st := []) hE hR dX11_next_377 ⟨rfl, (fun k_ j_ h_ => by rw [eσ210, dk_up_n (show ¬ (k_ = 141 ∧ j_ = 8) from fun q_ => h_ (Or.inr (Or.inr (Or.inl (q_))))), hF259 k_ j_ (fun w_ => h_ (w_.elim (fun x0_ => Or.inr (Or.inl (x0_))) (fun y0_ => Or.inr (Or.inr (Or.inr (Or.inl (y0_))))))), eσ153, dk_up_n (show ¬ (k_ = 141 ∧ j_ = 7) from fun q_ => h_ (Or.inr (Or.inl (q_)))), eσ137, dk_up_n (show ¬ (k_ = 141 ∧ j_ = 7) from fun q_ => h_ (Or.inr (Or.inl (q_)))), eσ135, dk_up_n (show ¬ (k_ = 141 ∧ j_ = 9) from fun q_ => h_ (Or.inr (Or.inr (Or.inr (Or.inl (q_)))))), eσ12, dk_up_n (show ¬ (k_ = 141 ∧ j_ = 7) from fun q_ => h_ (Or.inr (Or.inl (q_)))), hF8 k_ j_ (fun w_ => h_ (Or.inl (w_))), eσ2, dk_up_n (show ¬ (k_ = 141 ∧ j_ = 6) from fun q_ => h_ (Or.inl (q_)))]), ⟨NY_of (by omega) (by omega) (by omega), by omega⟩⟩
                          · skip
                            refine dk_if_eq (tgt := 354) (pc' := 350) hE dX11_next_347 (by decide) rfl (fun hc216 => ?_) (fun hc216 => absurd hc216 (by decide))
                            refine dk_iconst (pc' := 355) hE dX11_next_354 (by decide) rfl ?_
                            refine pf_11_8 (pc' := 358) hE fl_X11_222 dX11_next_355 is_141 (by omega) rfl (fun σ217 eσ217 => ?_)
                            refine dk_goto (tgt := 377) hE dX11_next_358 (by decide) ?_
                            have hz218 : σ217 141 3 = v4 := by rw [eσ217, dk_up_n (show ¬ (141 = 141 ∧ 3 = 8) by omega), hF259 141 3 (by omega), eσ153, dk_up_n (show ¬ (141 = 141 ∧ 3 = 7) by omega), eσ137, dk_up_n (show ¬ (141 = 141 ∧ 3 = 7) by omega), eσ135, dk_up_n (show ¬ (141 = 141 ∧ 3 = 9) by omega), hv14]
                            have hz219 : σ217 141 4 = σ 141 4 := by rw [eσ217, dk_up_n (show ¬ (141 = 141 ∧ 4 = 8) by omega), hF259 141 4 (by omega), eσ153, dk_up_n (show ¬ (141 = 141 ∧ 4 = 7) by omega), eσ137, dk_up_n (show ¬ (141 = 141 ∧ 4 = 7) by omega), eσ135, dk_up_n (show ¬ (141 = 141 ∧ 4 = 9) by omega), eσ12, dk_up_n (show ¬ (141 = 141 ∧ 4 = 7) by omega), hF8 141 4 (by omega), eσ2, dk_up_n (show ¬ (141 = 141 ∧ 4 = 6) by omega)]
                            have hz220 : σ217 141 6 = v3 := by rw [eσ217, dk_up_n (show ¬ (141 = 141 ∧ 6 = 8) by omega), hv193]
                            have hz221 : σ217 141 7 = v154 := by rw [eσ217, dk_up_n (show ¬ (141 = 141 ∧ 7 = 8) by omega), hv202]
                            have hz222 : σ217 141 8 = 4 := by rw [eσ217, dk_up_s]
                            exact dk_vret (st := []) hE hR dX11_next_377 ⟨rfl, (fun k_ j_ h_ => by rw [eσ217, dk_up_n (show ¬ (k_ = 141 ∧ j_ = 8) from fun q_ => h_ (Or.inr (Or.inr (Or.inl (q_))))), hF259 k_ j_ (fun w_ => h_ (w_.elim (fun x0_ => Or.inr (Or.inl (x0_))) (fun y0_ => Or.inr (Or.inr (Or.inr (Or.inl (y0_))))))), eσ153, dk_up_n (show ¬ (k_ = 141 ∧ j_ = 7) from fun q_ => h_ (Or.inr (Or.inl (q_)))), eσ137, dk_up_n (show ¬ (k_ = 141 ∧ j_ = 7) from fun q_ => h_ (Or.inr (Or.inl (q_)))), eσ135, dk_up_n (show ¬ (k_ = 141 ∧ j_ = 9) from fun q_ => h_ (Or.inr (Or.inr (Or.inr (Or.inl (q_)))))), eσ12, dk_up_n (show ¬ (k_ = 141 ∧ j_ = 7) from fun q_ => h_ (Or.inr (Or.inl (q_)))), hF8 k_ j_ (fun w_ => h_ (Or.inl (w_))), eσ2, dk_up_n (show ¬ (k_ = 141 ∧ j_ = 6) from fun q_ => h_ (Or.inl (q_)))]), ⟨NY_of (by omega) (by omega) (by omega), by omega⟩⟩
                  have hz223 : σ153 141 6 = v3 := by rw [eσ153, dk_up_n (show ¬ (141 = 141 ∧ 6 = 7) by omega), hv148]
                  have hz224 : σ153 141 7 = v152 := by rw [eσ153, dk_up_s]
                  have hz225 : σ153 141 7 = v152 := by rw [eσ153, dk_up_s]
                  have hz226 : σ153 141 6 = v3 := by rw [eσ153, dk_up_n (show ¬ (141 = 141 ∧ 6 = 7) by omega), hv148]
                  have hz227 : σ153 141 3 = v4 := by rw [eσ153, dk_up_n (show ¬ (141 = 141 ∧ 3 = 7) by omega), eσ137, dk_up_n (show ¬ (141 = 141 ∧ 3 = 7) by omega), eσ135, dk_up_n (show ¬ (141 = 141 ∧ 3 = 9) by omega), hv14]
                  have hz228 : σ153 141 4 = σ 141 4 := by rw [eσ153, dk_up_n (show ¬ (141 = 141 ∧ 4 = 7) by omega), eσ137, dk_up_n (show ¬ (141 = 141 ∧ 4 = 7) by omega), eσ135, dk_up_n (show ¬ (141 = 141 ∧ 4 = 9) by omega), eσ12, dk_up_n (show ¬ (141 = 141 ∧ 4 = 7) by omega), hF8 141 4 (by omega), eσ2, dk_up_n (show ¬ (141 = 141 ∧ 4 = 6) by omega)]
                  have hz229 : σ153 141 7 = v152 := by rw [eσ153, dk_up_s]
                  have hz230 : σ153 141 6 = v3 := by rw [eσ153, dk_up_n (show ¬ (141 = 141 ∧ 6 = 7) by omega), hv148]
                  have hz231 : σ153 141 9 = 0 := by rw [eσ153, dk_up_n (show ¬ (141 = 141 ∧ 9 = 7) by omega), eσ137, dk_up_n (show ¬ (141 = 141 ∧ 9 = 7) by omega), eσ135, dk_up_s]
                  have hz232 : σ153 141 7 = v152 := by rw [eσ153, dk_up_s]
                  have hz233 : σ153 141 6 = v3 := by rw [eσ153, dk_up_n (show ¬ (141 = 141 ∧ 6 = 7) by omega), hv148]
                  have hz234 : σ153 141 9 = 0 := by rw [eσ153, dk_up_n (show ¬ (141 = 141 ∧ 9 = 7) by omega), eσ137, dk_up_n (show ¬ (141 = 141 ∧ 9 = 7) by omega), eσ135, dk_up_s]
                  have hz235 : σ153 141 7 = v152 := by rw [eσ153, dk_up_s]
                  have hz236 : σ153 141 6 = v3 := by rw [eσ153, dk_up_n (show ¬ (141 = 141 ∧ 6 = 7) by omega), hv148]
                  have hz237 : σ153 141 9 = 0 := by rw [eσ153, dk_up_n (show ¬ (141 = 141 ∧ 9 = 7) by omega), eσ137, dk_up_n (show ¬ (141 = 141 ∧ 9 = 7) by omega), eσ135, dk_up_s]
                  have hz238 : σ153 141 7 = v152 := by rw [eσ153, dk_up_s]
                  have hz239 : σ153 141 6 = v3 := by rw [eσ153, dk_up_n (show ¬ (141 = 141 ∧ 6 = 7) by omega), hv148]
                  have hz240 : σ153 141 7 = v152 := by rw [eσ153, dk_up_s]
                  have hz241_141_7 : σ153 141 7 = v152 := by rw [eσ153, dk_up_s]
                  have hz244_141_9 : σ153 141 9 = 0 := by rw [eσ153, dk_up_n (show ¬ (141 = 141 ∧ 9 = 7) by omega), eσ137, dk_up_n (show ¬ (141 = 141 ∧ 9 = 7) by omega), eσ135, dk_up_s]
                  exact lp259 _ σ153 (Nat.lt_succ_self _) (fun k_ j_ h_ => rfl) (by omega) (by omega) (by omega)
                · skip
                  refine dk_aload_n (pc' := 287) hE dX11_next_286 rfl rfl rfl ?_
                  refine dk_bipush (pc' := 289) hE dX11_next_287 (by decide) rfl ?_
                  refine dk_aload_n (pc' := 290) hE dX11_next_289 rfl rfl rfl ?_
                  refine gf_11_9 (pc' := 293) hE fl_X11_240 dX11_next_290 is_141 rfl (fun v246 hv246 htv246 hbv246 => ?_)
                  have hq246 : 0 = v246 := (show v246 = 0 by rw [hv246, eσ137, dk_up_n (show ¬ (141 = 141 ∧ 9 = 7) by omega), eσ135, dk_up_s]).symm
                  subst hq246
                  clear htv246 hbv246
                  refine dk_imul (pc' := 294) hE dX11_next_293 (z := 0) (by decide) (by decide) rfl ?_
                  refine dk_aload_n (pc' := 295) hE dX11_next_294 rfl rfl rfl ?_
                  refine dk_aload_n (pc' := 296) hE dX11_next_295 rfl rfl rfl ?_
                  refine gf_11_7 (pc' := 299) hE fl_X11_212 dX11_next_296 is_141 rfl (fun v247 hv247 htv247 hbv247 => ?_)
                  have hq247 : v3 = v247 := (show v247 = v3 by rw [hv247, hv147]).symm
                  subst hq247
                  clear htv247 hbv247
                  refine dk_cV (pc' := 302) (as := [(0, v3)]) hE lk_X11_218 (ct_X11_sign l G hGd v3) dX11_next_299 rfl is_141 rfl (by decide) (Nat.le_of_ble_eq_true rfl) ⟨rfl, (by omega)⟩ rfl (fun r249 σ248 hr249 hor249 => ?_)
                  obtain ⟨v250, rfl, hfσ248, hpr249⟩ := hr249
                  have hsσ248 : σ137 = σ248 := (funext (fun k => funext (fun j => hfσ248 k j not_false))).symm
                  subst hsσ248
                  obtain ⟨v251, hv251⟩ : ∃ z : Int, z = 0 + v250 := ⟨_, rfl⟩
                  refine dk_iadd (pc' := 303) hE dX11_next_302 hv251.symm (by omega) rfl ?_
                  refine dk_bipush (pc' := 305) hE dX11_next_303 (by decide) rfl ?_
                  obtain ⟨v252, hv252⟩ : ∃ z : Int, z = v251 - 48 := ⟨_, rfl⟩
                  refine dk_isub (pc' := 306) hE dX11_next_305 hv252.symm (by omega) rfl ?_
                  refine pf_11_9 (pc' := 309) hE fl_X11_240 dX11_next_306 is_141 (by omega) rfl (fun σ253 eσ253 => ?_)
                  refine dk_aload_n (pc' := 310) hE dX11_next_309 rfl rfl rfl ?_
                  refine dk_dup (pc' := 311) hE dX11_next_310 (show (4 : Nat) ≠ 3 by decide) rfl ?_
                  refine gf_11_7 (pc' := 314) hE fl_X11_212 dX11_next_311 is_141 rfl (fun v254 hv254 htv254 hbv254 => ?_)
                  have hq254 : v3 = v254 := (show v254 = v3 by rw [hv254, eσ253, dk_up_n (show ¬ (141 = 141 ∧ 7 = 9) by omega), hv247]).symm
                  subst hq254
                  clear htv254 hbv254
                  refine dk_iconst (pc' := 315) hE dX11_next_314 (by decide) rfl ?_
                  obtain ⟨v255, hv255⟩ : ∃ z : Int, z = v3 + 1 := ⟨_, rfl⟩
                  refine dk_iadd (pc' := 316) hE dX11_next_315 hv255.symm (by omega) rfl ?_
                  refine pf_11_7 (pc' := 319) hE fl_X11_212 dX11_next_316 is_141 (by omega) rfl (fun σ256 eσ256 => ?_)
                  refine dk_goto (tgt := 259) hE dX11_next_319 (by decide) ?_
                  have lp259 : ∀ (N_ : Nat) (σ259c : dkS), (1402 - σ259c 141 7).toNat < N_ → ((∀ k_ j_ : Int, ¬ ((k_ = 141 ∧ j_ = 7) ∨ (k_ = 141 ∧ j_ = 9)) → σ259c k_ j_ = σ256 k_ j_)) → (σ259c 141 6 < σ259c 141 7 ∧ σ259c 141 7 ≤ σ 141 3 ∧ σ 141 7 ≤ σ259c 141 6) → (σ259c 141 3 = σ 141 3 ∧ σ259c 141 4 = σ 141 4) → ((σ259c 141 7 - σ259c 141 6 = 1 ∧ σ259c 141 9 ≤ 9) ∨ (σ259c 141 7 - σ259c 141 6 = 2 ∧ σ259c 141 9 ≤ 99) ∨ (σ259c 141 7 - σ259c 141 6 = 3 ∧ σ259c 141 9 ≤ 999) ∨ 4 ≤ σ259c 141 7 - σ259c 141 6) → dk_PJ E 259 [(4, 141), (0, v9), (9, 0)] [] 190 σ259c := by
                    intro N259
                    induction N259 with
                    | zero => intro  σ259c hm; exact absurd hm (Nat.not_lt_zero _)
                    | succ N259 ih259 =>
                      intro  σ259c hm259 hF259 hd hs6 hn
                      refine dk_aload_n (pc' := 260) hE dX11_next_259 rfl rfl rfl ?_
                      refine dk_aload_n (pc' := 261) hE dX11_next_260 rfl rfl rfl ?_
                      refine gf_11_7 (pc' := 264) hE fl_X11_212 dX11_next_261 is_141 rfl (fun v257 hv257 htv257 hbv257 => ?_)
                      refine dk_cV (pc' := 267) (as := [(0, v257)]) hE lk_X11_218 (ct_X11_sign l G hGd v257) dX11_next_264 rfl is_141 rfl (by decide) (Nat.le_of_ble_eq_true rfl) ⟨rfl, (by omega)⟩ rfl (fun r259 σ258 hr259 hor259 => ?_)
                      obtain ⟨v260, rfl, hfσ258, hpr259⟩ := hr259
                      have hsσ258 : σ259c = σ258 := (funext (fun k => funext (fun j => hfσ258 k j not_false))).symm
                      subst hsσ258
                      refine dk_cS (pc' := 270) (as := [(0, v260)]) hE lk_X11_237 (ct_X11_isDigit l G hGd v260) dX11_next_267 rfl rfl (by decide) (Nat.le_of_ble_eq_true rfl) rfl rfl (fun r262 σ261 hr262 hor262 => ?_)
                      obtain ⟨v263, rfl, hfσ261, hpr262⟩ := hr262
                      have hsσ261 : σ259c = σ261 := (funext (fun k => funext (fun j => hfσ261 k j not_false))).symm
                      subst hsσ261
                      rcases hpr262 with ⟨rfl, hpr262⟩ | ⟨rfl, hpr262⟩
                      · skip
                        refine dk_if_eq (tgt := 322) (pc' := 273) hE dX11_next_270 (by decide) rfl (fun hc264 => absurd hc264 (by decide)) (fun hc264 => ?_)
                        refine dk_aload_n (pc' := 274) hE dX11_next_273 rfl rfl rfl ?_
                        refine gf_11_7 (pc' := 277) hE fl_X11_212 dX11_next_274 is_141 rfl (fun v265 hv265 htv265 hbv265 => ?_)
                        have hq265 : v257 = v265 := (show v265 = v257 by rw [hv265, hv257]).symm
                        subst hq265
                        clear htv265 hbv265
                        refine dk_aload_n (pc' := 278) hE dX11_next_277 rfl rfl rfl ?_
                        refine gf_11_6 (pc' := 281) hE fl_X11_215 dX11_next_278 is_141 rfl (fun v266 hv266 htv266 hbv266 => ?_)
                        have hq266 : v3 = v266 := (show v266 = v3 by rw [hv266, hF259 141 6 (by omega), eσ256, dk_up_n (show ¬ (141 = 141 ∧ 6 = 7) by omega), eσ253, dk_up_n (show ¬ (141 = 141 ∧ 6 = 9) by omega), hv148]).symm
                        subst hq266
                        clear htv266 hbv266
                        obtain ⟨v267, hv267⟩ : ∃ z : Int, z = v257 - v3 := ⟨_, rfl⟩
                        refine dk_isub (pc' := 282) hE dX11_next_281 hv267.symm (by omega) rfl ?_
                        refine dk_iconst (pc' := 283) hE dX11_next_282 (by decide) rfl ?_
                        refine dk_icmp_ge (tgt := 309) (pc' := 286) hE dX11_next_283 (by decide) rfl (fun hc268 => ?_) (fun hc268 => ?_)
                        · skip
                          refine dk_aload_n (pc' := 310) hE dX11_next_309 rfl rfl rfl ?_
                          refine dk_dup (pc' := 311) hE dX11_next_310 (show (4 : Nat) ≠ 3 by decide) rfl ?_
                          refine gf_11_7 (pc' := 314) hE fl_X11_212 dX11_next_311 is_141 rfl (fun v269 hv269 htv269 hbv269 => ?_)
                          have hq269 : v257 = v269 := (show v269 = v257 by rw [hv269, hv265]).symm
                          subst hq269
                          clear htv269 hbv269
                          refine dk_iconst (pc' := 315) hE dX11_next_314 (by decide) rfl ?_
                          obtain ⟨v270, hv270⟩ : ∃ z : Int, z = v257 + 1 := ⟨_, rfl⟩
                          refine dk_iadd (pc' := 316) hE dX11_next_315 hv270.symm (by omega) rfl ?_
                          refine pf_11_7 (pc' := 319) hE fl_X11_212 dX11_next_316 is_141 (by omega) rfl (fun σ271 eσ271 => ?_)
                          refine dk_goto (tgt := 259) hE dX11_next_319 (by decide) ?_
                          have hz271_141_6 := (show σ271 141 6 = _ by rw [eσ271, dk_up_n (show ¬ (141 = 141 ∧ 6 = 7) by omega)])
                          have hz272_141_7 : σ271 141 7 = v270 := by rw [eσ271, dk_up_s]
                          have hz273_141_3 := (show σ271 141 3 = _ by rw [eσ271, dk_up_n (show ¬ (141 = 141 ∧ 3 = 7) by omega)])
                          have hz274_141_4 := (show σ271 141 4 = _ by rw [eσ271, dk_up_n (show ¬ (141 = 141 ∧ 4 = 7) by omega)])
                          have hz275_141_9 := (show σ271 141 9 = _ by rw [eσ271, dk_up_n (show ¬ (141 = 141 ∧ 9 = 7) by omega)])
                          exact ih259 σ271 (by omega) (fun k_ j_ h_ => by rw [eσ271, dk_up_n (show ¬ (k_ = 141 ∧ j_ = 7) from fun q_ => h_ (Or.inl (q_))), hF259 k_ j_ (fun w_ => h_ (w_.elim (fun x0_ => Or.inl (x0_)) (fun y0_ => Or.inr (y0_))))]) (by omega) (by omega) (by omega)
                        · skip
                          refine dk_aload_n (pc' := 287) hE dX11_next_286 rfl rfl rfl ?_
                          refine dk_bipush (pc' := 289) hE dX11_next_287 (by decide) rfl ?_
                          refine dk_aload_n (pc' := 290) hE dX11_next_289 rfl rfl rfl ?_
                          refine gf_11_9 (pc' := 293) hE fl_X11_240 dX11_next_290 is_141 rfl (fun v277 hv277 htv277 hbv277 => ?_)
                          obtain ⟨v278, hv278⟩ : ∃ z : Int, z = 10 * v277 := ⟨_, rfl⟩
                          refine dk_imul (pc' := 294) hE dX11_next_293 hv278.symm (by omega) rfl ?_
                          refine dk_aload_n (pc' := 295) hE dX11_next_294 rfl rfl rfl ?_
                          refine dk_aload_n (pc' := 296) hE dX11_next_295 rfl rfl rfl ?_
                          refine gf_11_7 (pc' := 299) hE fl_X11_212 dX11_next_296 is_141 rfl (fun v279 hv279 htv279 hbv279 => ?_)
                          have hq279 : v257 = v279 := (show v279 = v257 by rw [hv279, hv265]).symm
                          subst hq279
                          clear htv279 hbv279
                          refine dk_cV (pc' := 302) (as := [(0, v257)]) hE lk_X11_218 (ct_X11_sign l G hGd v257) dX11_next_299 rfl is_141 rfl (by decide) (Nat.le_of_ble_eq_true rfl) ⟨rfl, (by omega)⟩ rfl (fun r281 σ280 hr281 hor281 => ?_)
                          obtain ⟨v282, rfl, hfσ280, hpr281⟩ := hr281
                          have hsσ280 : σ259c = σ280 := (funext (fun k => funext (fun j => hfσ280 k j not_false))).symm
                          subst hsσ280
                          obtain ⟨v283, hv283⟩ : ∃ z : Int, z = v278 + v282 := ⟨_, rfl⟩
                          refine dk_iadd (pc' := 303) hE dX11_next_302 hv283.symm (by omega) rfl ?_
                          refine dk_bipush (pc' := 305) hE dX11_next_303 (by decide) rfl ?_
                          obtain ⟨v284, hv284⟩ : ∃ z : Int, z = v283 - 48 := ⟨_, rfl⟩
                          refine dk_isub (pc' := 306) hE dX11_next_305 hv284.symm (by omega) rfl ?_
                          refine pf_11_9 (pc' := 309) hE fl_X11_240 dX11_next_306 is_141 (by omega) rfl (fun σ285 eσ285 => ?_)
                          refine dk_aload_n (pc' := 310) hE dX11_next_309 rfl rfl rfl ?_
                          refine dk_dup (pc' := 311) hE dX11_next_310 (show (4 : Nat) ≠ 3 by decide) rfl ?_
                          refine gf_11_7 (pc' := 314) hE fl_X11_212 dX11_next_311 is_141 rfl (fun v286 hv286 htv286 hbv286 => ?_)
                          have hq286 : v257 = v286 := (show v286 = v257 by rw [hv286, eσ285, dk_up_n (show ¬ (141 = 141 ∧ 7 = 9) by omega), hv279]).symm
                          subst hq286
                          clear htv286 hbv286
                          refine dk_iconst (pc' := 315) hE dX11_next_314 (by decide) rfl ?_
                          obtain ⟨v287, hv287⟩ : ∃ z : Int, z = v257 + 1 := ⟨_, rfl⟩
                          refine dk_iadd (pc' := 316) hE dX11_next_315 hv287.symm (by omega) rfl ?_
                          refine pf_11_7 (pc' := 319) hE fl_X11_212 dX11_next_316 is_141 (by omega) rfl (fun σ288 eσ288 => ?_)
                          refine dk_goto (tgt := 259) hE dX11_next_319 (by decide) ?_
                          have hz288_141_6 := (show σ288 141 6 = _ by rw [eσ288, dk_up_n (show ¬ (141 = 141 ∧ 6 = 7) by omega), eσ285, dk_up_n (show ¬ (141 = 141 ∧ 6 = 9) by omega)])
                          have hz289_141_7 : σ288 141 7 = v287 := by rw [eσ288, dk_up_s]
                          have hz290_141_3 := (show σ288 141 3 = _ by rw [eσ288, dk_up_n (show ¬ (141 = 141 ∧ 3 = 7) by omega), eσ285, dk_up_n (show ¬ (141 = 141 ∧ 3 = 9) by omega)])
                          have hz291_141_4 := (show σ288 141 4 = _ by rw [eσ288, dk_up_n (show ¬ (141 = 141 ∧ 4 = 7) by omega), eσ285, dk_up_n (show ¬ (141 = 141 ∧ 4 = 9) by omega)])
                          have hz292_141_9 : σ288 141 9 = v284 := by rw [eσ288, dk_up_n (show ¬ (141 = 141 ∧ 9 = 7) by omega), eσ285, dk_up_s]
                          exact ih259 σ288 (by omega) (fun k_ j_ h_ => by rw [eσ288, dk_up_n (show ¬ (k_ = 141 ∧ j_ = 7) from fun q_ => h_ (Or.inl (q_))), eσ285, dk_up_n (show ¬ (k_ = 141 ∧ j_ = 9) from fun q_ => h_ (Or.inr (q_))), hF259 k_ j_ (fun w_ => h_ (w_.elim (fun x0_ => Or.inl (x0_)) (fun y0_ => Or.inr (y0_))))]) (by omega) (by omega) (by omega)
                      · skip
                        refine dk_if_eq (tgt := 322) (pc' := 273) hE dX11_next_270 (by decide) rfl (fun hc294 => ?_) (fun hc294 => absurd hc294 (by decide))
                        refine dk_aload_n (pc' := 323) hE dX11_next_322 rfl rfl rfl ?_
                        refine dk_aload_n (pc' := 324) hE dX11_next_323 rfl rfl rfl ?_
                        refine gf_11_7 (pc' := 327) hE fl_X11_212 dX11_next_324 is_141 rfl (fun v295 hv295 htv295 hbv295 => ?_)
                        have hq295 : v257 = v295 := (show v295 = v257 by rw [hv295, hv257]).symm
                        subst hq295
                        clear htv295 hbv295
                        refine dk_aload_n (pc' := 328) hE dX11_next_327 rfl rfl rfl ?_
                        refine gf_11_6 (pc' := 331) hE fl_X11_215 dX11_next_328 is_141 rfl (fun v296 hv296 htv296 hbv296 => ?_)
                        have hq296 : v3 = v296 := (show v296 = v3 by rw [hv296, hF259 141 6 (by omega), eσ256, dk_up_n (show ¬ (141 = 141 ∧ 6 = 7) by omega), eσ253, dk_up_n (show ¬ (141 = 141 ∧ 6 = 9) by omega), hv148]).symm
                        subst hq296
                        clear htv296 hbv296
                        obtain ⟨v297, hv297⟩ : ∃ z : Int, z = v257 - v3 := ⟨_, rfl⟩
                        refine dk_isub (pc' := 332) hE dX11_next_331 hv297.symm (by omega) rfl ?_
                        refine dk_iconst (pc' := 333) hE dX11_next_332 (by decide) rfl ?_
                        refine dk_icmp_gt (tgt := 350) (pc' := 336) hE dX11_next_333 (by decide) rfl (fun hc298 => ?_) (fun hc298 => ?_)
                        · skip
                          refine dk_iconst (pc' := 351) hE dX11_next_350 (by decide) rfl ?_
                          refine dk_goto (tgt := 355) hE dX11_next_351 (by decide) ?_
                          refine pf_11_8 (pc' := 358) hE fl_X11_222 dX11_next_355 is_141 (by omega) rfl (fun σ299 eσ299 => ?_)
                          refine dk_goto (tgt := 377) hE dX11_next_358 (by decide) ?_
                          have hz300 : σ299 141 3 = v4 := by rw [eσ299, dk_up_n (show ¬ (141 = 141 ∧ 3 = 8) by omega), hF259 141 3 (by omega), eσ256, dk_up_n (show ¬ (141 = 141 ∧ 3 = 7) by omega), eσ253, dk_up_n (show ¬ (141 = 141 ∧ 3 = 9) by omega), eσ137, dk_up_n (show ¬ (141 = 141 ∧ 3 = 7) by omega), eσ135, dk_up_n (show ¬ (141 = 141 ∧ 3 = 9) by omega), hv14]
                          have hz301 : σ299 141 4 = σ 141 4 := by rw [eσ299, dk_up_n (show ¬ (141 = 141 ∧ 4 = 8) by omega), hF259 141 4 (by omega), eσ256, dk_up_n (show ¬ (141 = 141 ∧ 4 = 7) by omega), eσ253, dk_up_n (show ¬ (141 = 141 ∧ 4 = 9) by omega), eσ137, dk_up_n (show ¬ (141 = 141 ∧ 4 = 7) by omega), eσ135, dk_up_n (show ¬ (141 = 141 ∧ 4 = 9) by omega), eσ12, dk_up_n (show ¬ (141 = 141 ∧ 4 = 7) by omega), hF8 141 4 (by omega), eσ2, dk_up_n (show ¬ (141 = 141 ∧ 4 = 6) by omega)]
                          have hz302 : σ299 141 6 = v3 := by rw [eσ299, dk_up_n (show ¬ (141 = 141 ∧ 6 = 8) by omega), hv296]
                          have hz303 : σ299 141 7 = v257 := by rw [eσ299, dk_up_n (show ¬ (141 = 141 ∧ 7 = 8) by omega), hv295]
                          have hz304 : σ299 141 8 = 1 := by rw [eσ299, dk_up_s]
                          exact dk_vret (st := []) hE hR dX11_next_377 ⟨rfl, (fun k_ j_ h_ => by rw [eσ299, dk_up_n (show ¬ (k_ = 141 ∧ j_ = 8) from fun q_ => h_ (Or.inr (Or.inr (Or.inl (q_))))), hF259 k_ j_ (fun w_ => h_ (w_.elim (fun x0_ => Or.inr (Or.inl (x0_))) (fun y0_ => Or.inr (Or.inr (Or.inr (Or.inl (y0_))))))), eσ256, dk_up_n (show ¬ (k_ = 141 ∧ j_ = 7) from fun q_ => h_ (Or.inr (Or.inl (q_)))), eσ253, dk_up_n (show ¬ (k_ = 141 ∧ j_ = 9) from fun q_ => h_ (Or.inr (Or.inr (Or.inr (Or.inl (q_)))))), eσ137, dk_up_n (show ¬ (k_ = 141 ∧ j_ = 7) from fun q_ => h_ (Or.inr (Or.inl (q_)))), eσ135, dk_up_n (show ¬ (k_ = 141 ∧ j_ = 9) from fun q_ => h_ (Or.inr (Or.inr (Or.inr (Or.inl (q_)))))), eσ12, dk_up_n (show ¬ (k_ = 141 ∧ j_ = 7) from fun q_ => h_ (Or.inr (Or.inl (q_)))), hF8 k_ j_ (fun w_ => h_ (Or.inl (w_))), eσ2, dk_up_n (show ¬ (k_ = 141 ∧ j_ = 6) from fun q_ => h_ (Or.inl (q_)))]), ⟨NY_of (by omega) (by omega) (by omega), by omega⟩⟩
                        · skip
                          refine dk_aload_n (pc' := 337) hE dX11_next_336 rfl rfl rfl ?_
                          refine dk_aload_n (pc' := 338) hE dX11_next_337 rfl rfl rfl ?_
                          refine gf_11_7 (pc' := 341) hE fl_X11_212 dX11_next_338 is_141 rfl (fun v305 hv305 htv305 hbv305 => ?_)
                          have hq305 : v257 = v305 := (show v305 = v257 by rw [hv305, hv295]).symm
                          subst hq305
                          clear htv305 hbv305
                          refine dk_cV (pc' := 344) (as := [(0, v257)]) hE lk_X11_218 (ct_X11_sign l G hGd v257) dX11_next_341 rfl is_141 rfl (by decide) (Nat.le_of_ble_eq_true rfl) ⟨rfl, (by omega)⟩ rfl (fun r307 σ306 hr307 hor307 => ?_)
                          obtain ⟨v308, rfl, hfσ306, hpr307⟩ := hr307
                          have hsσ306 : σ259c = σ306 := (funext (fun k => funext (fun j => hfσ306 k j not_false))).symm
                          subst hsσ306
                          refine dk_cS (pc' := 347) (as := [(0, v308)]) hE lk_X11_225 (ct_X11_isLetter l G hGd v308) dX11_next_344 rfl rfl (by decide) (Nat.le_of_ble_eq_true rfl) rfl rfl (fun r310 σ309 hr310 hor310 => ?_)
                          obtain ⟨v311, rfl, hfσ309, hpr310⟩ := hr310
                          have hsσ309 : σ259c = σ309 := (funext (fun k => funext (fun j => hfσ309 k j not_false))).symm
                          subst hsσ309
                          rcases hpr310 with ⟨rfl, hpr310⟩ | ⟨rfl, hpr310⟩
                          · skip
                            refine dk_if_eq (tgt := 354) (pc' := 350) hE dX11_next_347 (by decide) rfl (fun hc312 => absurd hc312 (by decide)) (fun hc312 => ?_)
                            refine dk_iconst (pc' := 351) hE dX11_next_350 (by decide) rfl ?_
                            refine dk_goto (tgt := 355) hE dX11_next_351 (by decide) ?_
                            refine pf_11_8 (pc' := 358) hE fl_X11_222 dX11_next_355 is_141 (by omega) rfl (fun σ313 eσ313 => ?_)
                            refine dk_goto (tgt := 377) hE dX11_next_358 (by decide) ?_
                            have hz314 : σ313 141 3 = v4 := by rw [eσ313, dk_up_n (show ¬ (141 = 141 ∧ 3 = 8) by omega), hF259 141 3 (by omega), eσ256, dk_up_n (show ¬ (141 = 141 ∧ 3 = 7) by omega), eσ253, dk_up_n (show ¬ (141 = 141 ∧ 3 = 9) by omega), eσ137, dk_up_n (show ¬ (141 = 141 ∧ 3 = 7) by omega), eσ135, dk_up_n (show ¬ (141 = 141 ∧ 3 = 9) by omega), hv14]
                            have hz315 : σ313 141 4 = σ 141 4 := by rw [eσ313, dk_up_n (show ¬ (141 = 141 ∧ 4 = 8) by omega), hF259 141 4 (by omega), eσ256, dk_up_n (show ¬ (141 = 141 ∧ 4 = 7) by omega), eσ253, dk_up_n (show ¬ (141 = 141 ∧ 4 = 9) by omega), eσ137, dk_up_n (show ¬ (141 = 141 ∧ 4 = 7) by omega), eσ135, dk_up_n (show ¬ (141 = 141 ∧ 4 = 9) by omega), eσ12, dk_up_n (show ¬ (141 = 141 ∧ 4 = 7) by omega), hF8 141 4 (by omega), eσ2, dk_up_n (show ¬ (141 = 141 ∧ 4 = 6) by omega)]
                            have hz316 : σ313 141 6 = v3 := by rw [eσ313, dk_up_n (show ¬ (141 = 141 ∧ 6 = 8) by omega), hv296]
                            have hz317 : σ313 141 7 = v257 := by rw [eσ313, dk_up_n (show ¬ (141 = 141 ∧ 7 = 8) by omega), hv305]
                            have hz318 : σ313 141 8 = 1 := by rw [eσ313, dk_up_s]
                            exact dk_vret (st := []) hE hR dX11_next_377 ⟨rfl, (fun k_ j_ h_ => by rw [eσ313, dk_up_n (show ¬ (k_ = 141 ∧ j_ = 8) from fun q_ => h_ (Or.inr (Or.inr (Or.inl (q_))))), hF259 k_ j_ (fun w_ => h_ (w_.elim (fun x0_ => Or.inr (Or.inl (x0_))) (fun y0_ => Or.inr (Or.inr (Or.inr (Or.inl (y0_))))))), eσ256, dk_up_n (show ¬ (k_ = 141 ∧ j_ = 7) from fun q_ => h_ (Or.inr (Or.inl (q_)))), eσ253, dk_up_n (show ¬ (k_ = 141 ∧ j_ = 9) from fun q_ => h_ (Or.inr (Or.inr (Or.inr (Or.inl (q_)))))), eσ137, dk_up_n (show ¬ (k_ = 141 ∧ j_ = 7) from fun q_ => h_ (Or.inr (Or.inl (q_)))), eσ135, dk_up_n (show ¬ (k_ = 141 ∧ j_ = 9) from fun q_ => h_ (Or.inr (Or.inr (Or.inr (Or.inl (q_)))))), eσ12, dk_up_n (show ¬ (k_ = 141 ∧ j_ = 7) from fun q_ => h_ (Or.inr (Or.inl (q_)))), hF8 k_ j_ (fun w_ => h_ (Or.inl (w_))), eσ2, dk_up_n (show ¬ (k_ = 141 ∧ j_ = 6) from fun q_ => h_ (Or.inl (q_)))]), ⟨NY_of (by omega) (by omega) (by omega), by omega⟩⟩
                          · skip
                            refine dk_if_eq (tgt := 354) (pc' := 350) hE dX11_next_347 (by decide) rfl (fun hc319 => ?_) (fun hc319 => absurd hc319 (by decide))
                            refine dk_iconst (pc' := 355) hE dX11_next_354 (by decide) rfl ?_
                            refine pf_11_8 (pc' := 358) hE fl_X11_222 dX11_next_355 is_141 (by omega) rfl (fun σ320 eσ320 => ?_)
                            refine dk_goto (tgt := 377) hE dX11_next_358 (by decide) ?_
                            have hz321 : σ320 141 3 = v4 := by rw [eσ320, dk_up_n (show ¬ (141 = 141 ∧ 3 = 8) by omega), hF259 141 3 (by omega), eσ256, dk_up_n (show ¬ (141 = 141 ∧ 3 = 7) by omega), eσ253, dk_up_n (show ¬ (141 = 141 ∧ 3 = 9) by omega), eσ137, dk_up_n (show ¬ (141 = 141 ∧ 3 = 7) by omega), eσ135, dk_up_n (show ¬ (141 = 141 ∧ 3 = 9) by omega), hv14]
                            have hz322 : σ320 141 4 = σ 141 4 := by rw [eσ320, dk_up_n (show ¬ (141 = 141 ∧ 4 = 8) by omega), hF259 141 4 (by omega), eσ256, dk_up_n (show ¬ (141 = 141 ∧ 4 = 7) by omega), eσ253, dk_up_n (show ¬ (141 = 141 ∧ 4 = 9) by omega), eσ137, dk_up_n (show ¬ (141 = 141 ∧ 4 = 7) by omega), eσ135, dk_up_n (show ¬ (141 = 141 ∧ 4 = 9) by omega), eσ12, dk_up_n (show ¬ (141 = 141 ∧ 4 = 7) by omega), hF8 141 4 (by omega), eσ2, dk_up_n (show ¬ (141 = 141 ∧ 4 = 6) by omega)]
                            have hz323 : σ320 141 6 = v3 := by rw [eσ320, dk_up_n (show ¬ (141 = 141 ∧ 6 = 8) by omega), hv296]
                            have hz324 : σ320 141 7 = v257 := by rw [eσ320, dk_up_n (show ¬ (141 = 141 ∧ 7 = 8) by omega), hv305]
                            have hz325 : σ320 141 8 = 4 := by rw [eσ320, dk_up_s]
                            exact dk_vret (st := []) hE hR dX11_next_377 ⟨rfl, (fun k_ j_ h_ => by rw [eσ320, dk_up_n (show ¬ (k_ = 141 ∧ j_ = 8) from fun q_ => h_ (Or.inr (Or.inr (Or.inl (q_))))), hF259 k_ j_ (fun w_ => h_ (w_.elim (fun x0_ => Or.inr (Or.inl (x0_))) (fun y0_ => Or.inr (Or.inr (Or.inr (Or.inl (y0_))))))), eσ256, dk_up_n (show ¬ (k_ = 141 ∧ j_ = 7) from fun q_ => h_ (Or.inr (Or.inl (q_)))), eσ253, dk_up_n (show ¬ (k_ = 141 ∧ j_ = 9) from fun q_ => h_ (Or.inr (Or.inr (Or.inr (Or.inl (q_)))))), eσ137, dk_up_n (show ¬ (k_ = 141 ∧ j_ = 7) from fun q_ => h_ (Or.inr (Or.inl (q_)))), eσ135, dk_up_n (show ¬ (k_ = 141 ∧ j_ = 9) from fun q_ => h_ (Or.inr (Or.inr (Or.inr (Or.inl (q_)))))), eσ12, dk_up_n (show ¬ (k_ = 141 ∧ j_ = 7) from fun q_ => h_ (Or.inr (Or.inl (q_)))), hF8 k_ j_ (fun w_ => h_ (Or.inl (w_))), eσ2, dk_up_n (show ¬ (k_ = 141 ∧ j_ = 6) from fun q_ => h_ (Or.inl (q_)))]), ⟨NY_of (by omega) (by omega) (by omega), by omega⟩⟩
                  have hz326 : σ256 141 6 = v3 := by rw [eσ256, dk_up_n (show ¬ (141 = 141 ∧ 6 = 7) by omega), eσ253, dk_up_n (show ¬ (141 = 141 ∧ 6 = 9) by omega), hv148]
                  have hz327 : σ256 141 7 = v255 := by rw [eσ256, dk_up_s]
                  have hz328 : σ256 141 7 = v255 := by rw [eσ256, dk_up_s]
                  have hz329 : σ256 141 6 = v3 := by rw [eσ256, dk_up_n (show ¬ (141 = 141 ∧ 6 = 7) by omega), eσ253, dk_up_n (show ¬ (141 = 141 ∧ 6 = 9) by omega), hv148]
                  have hz330 : σ256 141 3 = v4 := by rw [eσ256, dk_up_n (show ¬ (141 = 141 ∧ 3 = 7) by omega), eσ253, dk_up_n (show ¬ (141 = 141 ∧ 3 = 9) by omega), eσ137, dk_up_n (show ¬ (141 = 141 ∧ 3 = 7) by omega), eσ135, dk_up_n (show ¬ (141 = 141 ∧ 3 = 9) by omega), hv14]
                  have hz331 : σ256 141 4 = σ 141 4 := by rw [eσ256, dk_up_n (show ¬ (141 = 141 ∧ 4 = 7) by omega), eσ253, dk_up_n (show ¬ (141 = 141 ∧ 4 = 9) by omega), eσ137, dk_up_n (show ¬ (141 = 141 ∧ 4 = 7) by omega), eσ135, dk_up_n (show ¬ (141 = 141 ∧ 4 = 9) by omega), eσ12, dk_up_n (show ¬ (141 = 141 ∧ 4 = 7) by omega), hF8 141 4 (by omega), eσ2, dk_up_n (show ¬ (141 = 141 ∧ 4 = 6) by omega)]
                  have hz332 : σ256 141 7 = v255 := by rw [eσ256, dk_up_s]
                  have hz333 : σ256 141 6 = v3 := by rw [eσ256, dk_up_n (show ¬ (141 = 141 ∧ 6 = 7) by omega), eσ253, dk_up_n (show ¬ (141 = 141 ∧ 6 = 9) by omega), hv148]
                  have hz334 : σ256 141 9 = v252 := by rw [eσ256, dk_up_n (show ¬ (141 = 141 ∧ 9 = 7) by omega), eσ253, dk_up_s]
                  have hz335 : σ256 141 7 = v255 := by rw [eσ256, dk_up_s]
                  have hz336 : σ256 141 6 = v3 := by rw [eσ256, dk_up_n (show ¬ (141 = 141 ∧ 6 = 7) by omega), eσ253, dk_up_n (show ¬ (141 = 141 ∧ 6 = 9) by omega), hv148]
                  have hz337 : σ256 141 9 = v252 := by rw [eσ256, dk_up_n (show ¬ (141 = 141 ∧ 9 = 7) by omega), eσ253, dk_up_s]
                  have hz338 : σ256 141 7 = v255 := by rw [eσ256, dk_up_s]
                  have hz339 : σ256 141 6 = v3 := by rw [eσ256, dk_up_n (show ¬ (141 = 141 ∧ 6 = 7) by omega), eσ253, dk_up_n (show ¬ (141 = 141 ∧ 6 = 9) by omega), hv148]
                  have hz340 : σ256 141 9 = v252 := by rw [eσ256, dk_up_n (show ¬ (141 = 141 ∧ 9 = 7) by omega), eσ253, dk_up_s]
                  have hz341 : σ256 141 7 = v255 := by rw [eσ256, dk_up_s]
                  have hz342 : σ256 141 6 = v3 := by rw [eσ256, dk_up_n (show ¬ (141 = 141 ∧ 6 = 7) by omega), eσ253, dk_up_n (show ¬ (141 = 141 ∧ 6 = 9) by omega), hv148]
                  have hz343 : σ256 141 7 = v255 := by rw [eσ256, dk_up_s]
                  have hz344_141_7 : σ256 141 7 = v255 := by rw [eσ256, dk_up_s]
                  have hz347_141_9 : σ256 141 9 = v252 := by rw [eσ256, dk_up_n (show ¬ (141 = 141 ∧ 9 = 7) by omega), eσ253, dk_up_s]
                  exact lp259 _ σ256 (Nat.lt_succ_self _) (fun k_ j_ h_ => rfl) (by omega) (by omega) (by omega)
              · skip
                refine dk_if_eq (tgt := 322) (pc' := 273) hE dX11_next_270 (by decide) rfl (fun hc349 => ?_) (fun hc349 => absurd hc349 (by decide))
                refine dk_aload_n (pc' := 323) hE dX11_next_322 rfl rfl rfl ?_
                refine dk_aload_n (pc' := 324) hE dX11_next_323 rfl rfl rfl ?_
                refine gf_11_7 (pc' := 327) hE fl_X11_212 dX11_next_324 is_141 rfl (fun v350 hv350 htv350 hbv350 => ?_)
                have hq350 : v3 = v350 := (show v350 = v3 by rw [hv350, hv138]).symm
                subst hq350
                clear htv350 hbv350
                refine dk_aload_n (pc' := 328) hE dX11_next_327 rfl rfl rfl ?_
                refine gf_11_6 (pc' := 331) hE fl_X11_215 dX11_next_328 is_141 rfl (fun v351 hv351 htv351 hbv351 => ?_)
                have hq351 : v3 = v351 := (show v351 = v3 by rw [hv351, eσ137, dk_up_n (show ¬ (141 = 141 ∧ 6 = 7) by omega), hv136]).symm
                subst hq351
                clear htv351 hbv351
                obtain ⟨v352, hv352⟩ : ∃ z : Int, z = v3 - v3 := ⟨_, rfl⟩
                refine dk_isub (pc' := 332) hE dX11_next_331 hv352.symm (by omega) rfl ?_
                refine dk_iconst (pc' := 333) hE dX11_next_332 (by decide) rfl ?_
                refine dk_icmp_gt (tgt := 350) (pc' := 336) hE dX11_next_333 (by decide) rfl (fun hc353 => ?_) (fun hc353 => ?_)
                · skip
                  refine dk_iconst (pc' := 351) hE dX11_next_350 (by decide) rfl ?_
                  refine dk_goto (tgt := 355) hE dX11_next_351 (by decide) ?_
                  refine pf_11_8 (pc' := 358) hE fl_X11_222 dX11_next_355 is_141 (by omega) rfl (fun σ354 eσ354 => ?_)
                  refine dk_goto (tgt := 377) hE dX11_next_358 (by decide) ?_
                  have hz355 : σ354 141 3 = v4 := by rw [eσ354, dk_up_n (show ¬ (141 = 141 ∧ 3 = 8) by omega), eσ137, dk_up_n (show ¬ (141 = 141 ∧ 3 = 7) by omega), eσ135, dk_up_n (show ¬ (141 = 141 ∧ 3 = 9) by omega), hv14]
                  have hz356 : σ354 141 4 = σ 141 4 := by rw [eσ354, dk_up_n (show ¬ (141 = 141 ∧ 4 = 8) by omega), eσ137, dk_up_n (show ¬ (141 = 141 ∧ 4 = 7) by omega), eσ135, dk_up_n (show ¬ (141 = 141 ∧ 4 = 9) by omega), eσ12, dk_up_n (show ¬ (141 = 141 ∧ 4 = 7) by omega), hF8 141 4 (by omega), eσ2, dk_up_n (show ¬ (141 = 141 ∧ 4 = 6) by omega)]
                  have hz357 : σ354 141 6 = v3 := by rw [eσ354, dk_up_n (show ¬ (141 = 141 ∧ 6 = 8) by omega), hv351]
                  have hz358 : σ354 141 7 = v3 := by rw [eσ354, dk_up_n (show ¬ (141 = 141 ∧ 7 = 8) by omega), hv350]
                  have hz359 : σ354 141 8 = 1 := by rw [eσ354, dk_up_s]
                  exact dk_vret (st := []) hE hR dX11_next_377 ⟨rfl, (fun k_ j_ h_ => by rw [eσ354, dk_up_n (show ¬ (k_ = 141 ∧ j_ = 8) from fun q_ => h_ (Or.inr (Or.inr (Or.inl (q_))))), eσ137, dk_up_n (show ¬ (k_ = 141 ∧ j_ = 7) from fun q_ => h_ (Or.inr (Or.inl (q_)))), eσ135, dk_up_n (show ¬ (k_ = 141 ∧ j_ = 9) from fun q_ => h_ (Or.inr (Or.inr (Or.inr (Or.inl (q_)))))), eσ12, dk_up_n (show ¬ (k_ = 141 ∧ j_ = 7) from fun q_ => h_ (Or.inr (Or.inl (q_)))), hF8 k_ j_ (fun w_ => h_ (Or.inl (w_))), eσ2, dk_up_n (show ¬ (k_ = 141 ∧ j_ = 6) from fun q_ => h_ (Or.inl (q_)))]), ⟨NY_of (by omega) (by omega) (by omega), by omega⟩⟩
                · skip
                  refine dk_aload_n (pc' := 337) hE dX11_next_336 rfl rfl rfl ?_
                  refine dk_aload_n (pc' := 338) hE dX11_next_337 rfl rfl rfl ?_
                  refine gf_11_7 (pc' := 341) hE fl_X11_212 dX11_next_338 is_141 rfl (fun v360 hv360 htv360 hbv360 => ?_)
                  have hq360 : v3 = v360 := (show v360 = v3 by rw [hv360, hv350]).symm
                  subst hq360
                  clear htv360 hbv360
                  refine dk_cV (pc' := 344) (as := [(0, v3)]) hE lk_X11_218 (ct_X11_sign l G hGd v3) dX11_next_341 rfl is_141 rfl (by decide) (Nat.le_of_ble_eq_true rfl) ⟨rfl, (by omega)⟩ rfl (fun r362 σ361 hr362 hor362 => ?_)
                  obtain ⟨v363, rfl, hfσ361, hpr362⟩ := hr362
                  have hsσ361 : σ137 = σ361 := (funext (fun k => funext (fun j => hfσ361 k j not_false))).symm
                  subst hsσ361
                  refine dk_cS (pc' := 347) (as := [(0, v363)]) hE lk_X11_225 (ct_X11_isLetter l G hGd v363) dX11_next_344 rfl rfl (by decide) (Nat.le_of_ble_eq_true rfl) rfl rfl (fun r365 σ364 hr365 hor365 => ?_)
                  obtain ⟨v366, rfl, hfσ364, hpr365⟩ := hr365
                  have hsσ364 : σ137 = σ364 := (funext (fun k => funext (fun j => hfσ364 k j not_false))).symm
                  subst hsσ364
                  rcases hpr365 with ⟨rfl, hpr365⟩ | ⟨rfl, hpr365⟩
                  · skip
                    refine dk_if_eq (tgt := 354) (pc' := 350) hE dX11_next_347 (by decide) rfl (fun hc367 => absurd hc367 (by decide)) (fun hc367 => ?_)
                    refine dk_iconst (pc' := 351) hE dX11_next_350 (by decide) rfl ?_
                    refine dk_goto (tgt := 355) hE dX11_next_351 (by decide) ?_
                    refine pf_11_8 (pc' := 358) hE fl_X11_222 dX11_next_355 is_141 (by omega) rfl (fun σ368 eσ368 => ?_)
                    refine dk_goto (tgt := 377) hE dX11_next_358 (by decide) ?_
                    have hz369 : σ368 141 3 = v4 := by rw [eσ368, dk_up_n (show ¬ (141 = 141 ∧ 3 = 8) by omega), eσ137, dk_up_n (show ¬ (141 = 141 ∧ 3 = 7) by omega), eσ135, dk_up_n (show ¬ (141 = 141 ∧ 3 = 9) by omega), hv14]
                    have hz370 : σ368 141 4 = σ 141 4 := by rw [eσ368, dk_up_n (show ¬ (141 = 141 ∧ 4 = 8) by omega), eσ137, dk_up_n (show ¬ (141 = 141 ∧ 4 = 7) by omega), eσ135, dk_up_n (show ¬ (141 = 141 ∧ 4 = 9) by omega), eσ12, dk_up_n (show ¬ (141 = 141 ∧ 4 = 7) by omega), hF8 141 4 (by omega), eσ2, dk_up_n (show ¬ (141 = 141 ∧ 4 = 6) by omega)]
                    have hz371 : σ368 141 6 = v3 := by rw [eσ368, dk_up_n (show ¬ (141 = 141 ∧ 6 = 8) by omega), hv351]
                    have hz372 : σ368 141 7 = v3 := by rw [eσ368, dk_up_n (show ¬ (141 = 141 ∧ 7 = 8) by omega), hv360]
                    have hz373 : σ368 141 8 = 1 := by rw [eσ368, dk_up_s]
                    exact dk_vret (st := []) hE hR dX11_next_377 ⟨rfl, (fun k_ j_ h_ => by rw [eσ368, dk_up_n (show ¬ (k_ = 141 ∧ j_ = 8) from fun q_ => h_ (Or.inr (Or.inr (Or.inl (q_))))), eσ137, dk_up_n (show ¬ (k_ = 141 ∧ j_ = 7) from fun q_ => h_ (Or.inr (Or.inl (q_)))), eσ135, dk_up_n (show ¬ (k_ = 141 ∧ j_ = 9) from fun q_ => h_ (Or.inr (Or.inr (Or.inr (Or.inl (q_)))))), eσ12, dk_up_n (show ¬ (k_ = 141 ∧ j_ = 7) from fun q_ => h_ (Or.inr (Or.inl (q_)))), hF8 k_ j_ (fun w_ => h_ (Or.inl (w_))), eσ2, dk_up_n (show ¬ (k_ = 141 ∧ j_ = 6) from fun q_ => h_ (Or.inl (q_)))]), ⟨NY_of (by omega) (by omega) (by omega), by omega⟩⟩
                  · skip
                    refine dk_if_eq (tgt := 354) (pc' := 350) hE dX11_next_347 (by decide) rfl (fun hc374 => ?_) (fun hc374 => absurd hc374 (by decide))
                    refine dk_iconst (pc' := 355) hE dX11_next_354 (by decide) rfl ?_
                    refine pf_11_8 (pc' := 358) hE fl_X11_222 dX11_next_355 is_141 (by omega) rfl (fun σ375 eσ375 => ?_)
                    refine dk_goto (tgt := 377) hE dX11_next_358 (by decide) ?_
                    have hz376 : σ375 141 3 = v4 := by rw [eσ375, dk_up_n (show ¬ (141 = 141 ∧ 3 = 8) by omega), eσ137, dk_up_n (show ¬ (141 = 141 ∧ 3 = 7) by omega), eσ135, dk_up_n (show ¬ (141 = 141 ∧ 3 = 9) by omega), hv14]
                    have hz377 : σ375 141 4 = σ 141 4 := by rw [eσ375, dk_up_n (show ¬ (141 = 141 ∧ 4 = 8) by omega), eσ137, dk_up_n (show ¬ (141 = 141 ∧ 4 = 7) by omega), eσ135, dk_up_n (show ¬ (141 = 141 ∧ 4 = 9) by omega), eσ12, dk_up_n (show ¬ (141 = 141 ∧ 4 = 7) by omega), hF8 141 4 (by omega), eσ2, dk_up_n (show ¬ (141 = 141 ∧ 4 = 6) by omega)]
                    have hz378 : σ375 141 6 = v3 := by rw [eσ375, dk_up_n (show ¬ (141 = 141 ∧ 6 = 8) by omega), hv351]
                    have hz379 : σ375 141 7 = v3 := by rw [eσ375, dk_up_n (show ¬ (141 = 141 ∧ 7 = 8) by omega), hv360]
                    have hz380 : σ375 141 8 = 4 := by rw [eσ375, dk_up_s]
                    exact dk_vret (st := []) hE hR dX11_next_377 ⟨rfl, (fun k_ j_ h_ => by rw [eσ375, dk_up_n (show ¬ (k_ = 141 ∧ j_ = 8) from fun q_ => h_ (Or.inr (Or.inr (Or.inl (q_))))), eσ137, dk_up_n (show ¬ (k_ = 141 ∧ j_ = 7) from fun q_ => h_ (Or.inr (Or.inl (q_)))), eσ135, dk_up_n (show ¬ (k_ = 141 ∧ j_ = 9) from fun q_ => h_ (Or.inr (Or.inr (Or.inr (Or.inl (q_)))))), eσ12, dk_up_n (show ¬ (k_ = 141 ∧ j_ = 7) from fun q_ => h_ (Or.inr (Or.inl (q_)))), hF8 k_ j_ (fun w_ => h_ (Or.inl (w_))), eσ2, dk_up_n (show ¬ (k_ = 141 ∧ j_ = 6) from fun q_ => h_ (Or.inl (q_)))]), ⟨NY_of (by omega) (by omega) (by omega), by omega⟩⟩
            · skip
              refine dk_if_eq (tgt := 361) (pc' := 246) hE dX11_next_243 (by decide) rfl (fun hc381 => ?_) (fun hc381 => absurd hc381 (by decide))
              refine dk_aload_n (pc' := 362) hE dX11_next_361 rfl rfl rfl ?_
              refine dk_iload_n (pc' := 363) hE dX11_next_362 rfl rfl rfl ?_
              refine dk_cS (pc' := 366) (as := [(0, v9)]) hE lk_X11_243 (ct_X11_isSign l G hGd v9) dX11_next_363 rfl rfl (by decide) (Nat.le_of_ble_eq_true rfl) rfl rfl (fun r383 σ382 hr383 hor383 => ?_)
              obtain ⟨v384, rfl, hfσ382, hpr383⟩ := hr383
              have hsσ382 : σ12 = σ382 := (funext (fun k => funext (fun j => hfσ382 k j not_false))).symm
              subst hsσ382
              refine dk_if_eq (tgt := 373) (pc' := 369) hE dX11_next_366 (by decide) rfl (fun hc385 => ?_) (fun hc385 => ?_)
              · skip
                refine dk_iconst (pc' := 374) hE dX11_next_373 (by decide) rfl ?_
                refine pf_11_8 (pc' := 377) hE fl_X11_222 dX11_next_374 is_141 (by omega) rfl (fun σ386 eσ386 => ?_)
                have hz387 : σ386 141 3 = v4 := by rw [eσ386, dk_up_n (show ¬ (141 = 141 ∧ 3 = 8) by omega), hv14]
                have hz388 : σ386 141 4 = σ 141 4 := by rw [eσ386, dk_up_n (show ¬ (141 = 141 ∧ 4 = 8) by omega), eσ12, dk_up_n (show ¬ (141 = 141 ∧ 4 = 7) by omega), hF8 141 4 (by omega), eσ2, dk_up_n (show ¬ (141 = 141 ∧ 4 = 6) by omega)]
                have hz389 : σ386 141 6 = v3 := by rw [eσ386, dk_up_n (show ¬ (141 = 141 ∧ 6 = 8) by omega), hv13]
                have hz390 : σ386 141 7 = v11 := by rw [eσ386, dk_up_n (show ¬ (141 = 141 ∧ 7 = 8) by omega), eσ12, dk_up_s]
                have hz391 : σ386 141 8 = 1 := by rw [eσ386, dk_up_s]
                exact dk_vret (st := []) hE hR dX11_next_377 ⟨rfl, (fun k_ j_ h_ => by rw [eσ386, dk_up_n (show ¬ (k_ = 141 ∧ j_ = 8) from fun q_ => h_ (Or.inr (Or.inr (Or.inl (q_))))), eσ12, dk_up_n (show ¬ (k_ = 141 ∧ j_ = 7) from fun q_ => h_ (Or.inr (Or.inl (q_)))), hF8 k_ j_ (fun w_ => h_ (Or.inl (w_))), eσ2, dk_up_n (show ¬ (k_ = 141 ∧ j_ = 6) from fun q_ => h_ (Or.inl (q_)))]), ⟨NY_of (by omega) (by omega) (by omega), by omega⟩⟩
              · skip
                refine dk_iconst (pc' := 370) hE dX11_next_369 (by decide) rfl ?_
                refine dk_goto (tgt := 374) hE dX11_next_370 (by decide) ?_
                refine pf_11_8 (pc' := 377) hE fl_X11_222 dX11_next_374 is_141 (by omega) rfl (fun σ392 eσ392 => ?_)
                have hz393 : σ392 141 3 = v4 := by rw [eσ392, dk_up_n (show ¬ (141 = 141 ∧ 3 = 8) by omega), hv14]
                have hz394 : σ392 141 4 = σ 141 4 := by rw [eσ392, dk_up_n (show ¬ (141 = 141 ∧ 4 = 8) by omega), eσ12, dk_up_n (show ¬ (141 = 141 ∧ 4 = 7) by omega), hF8 141 4 (by omega), eσ2, dk_up_n (show ¬ (141 = 141 ∧ 4 = 6) by omega)]
                have hz395 : σ392 141 6 = v3 := by rw [eσ392, dk_up_n (show ¬ (141 = 141 ∧ 6 = 8) by omega), hv13]
                have hz396 : σ392 141 7 = v11 := by rw [eσ392, dk_up_n (show ¬ (141 = 141 ∧ 7 = 8) by omega), eσ12, dk_up_s]
                have hz397 : σ392 141 8 = 5 := by rw [eσ392, dk_up_s]
                exact dk_vret (st := []) hE hR dX11_next_377 ⟨rfl, (fun k_ j_ h_ => by rw [eσ392, dk_up_n (show ¬ (k_ = 141 ∧ j_ = 8) from fun q_ => h_ (Or.inr (Or.inr (Or.inl (q_))))), eσ12, dk_up_n (show ¬ (k_ = 141 ∧ j_ = 7) from fun q_ => h_ (Or.inr (Or.inl (q_)))), hF8 k_ j_ (fun w_ => h_ (Or.inl (w_))), eσ2, dk_up_n (show ¬ (k_ = 141 ∧ j_ = 6) from fun q_ => h_ (Or.inl (q_)))]), ⟨NY_of (by omega) (by omega) (by omega), by omega⟩⟩
        · skip
          refine dk_aload_n (pc' := 89) hE dX11_next_88 rfl rfl rfl ?_
          refine dk_iconst (pc' := 90) hE dX11_next_89 (by decide) rfl ?_
          refine pf_11_8 (pc' := 93) hE fl_X11_222 dX11_next_90 is_141 (by omega) rfl (fun σ398 eσ398 => ?_)
          refine dk_aload_n (pc' := 94) hE dX11_next_93 rfl rfl rfl ?_
          refine dk_aload_n (pc' := 95) hE dX11_next_94 rfl rfl rfl ?_
          refine gf_11_3 (pc' := 98) hE fl_X11_164 dX11_next_95 is_141 rfl (fun v399 hv399 htv399 hbv399 => ?_)
          have hq399 : v4 = v399 := (show v399 = v4 by rw [hv399, eσ398, dk_up_n (show ¬ (141 = 141 ∧ 3 = 8) by omega), hv14]).symm
          subst hq399
          clear htv399 hbv399
          refine pf_11_6 (pc' := 101) hE fl_X11_215 dX11_next_98 is_141 (by omega) rfl (fun σ400 eσ400 => ?_)
          refine dk_aload_n (pc' := 102) hE dX11_next_101 rfl rfl rfl ?_
          refine dk_aload_n (pc' := 103) hE dX11_next_102 rfl rfl rfl ?_
          refine gf_11_3 (pc' := 106) hE fl_X11_164 dX11_next_103 is_141 rfl (fun v401 hv401 htv401 hbv401 => ?_)
          have hq401 : v4 = v401 := (show v401 = v4 by rw [hv401, eσ400, dk_up_n (show ¬ (141 = 141 ∧ 3 = 6) by omega), hv399]).symm
          subst hq401
          clear htv401 hbv401
          refine pf_11_7 (pc' := 109) hE fl_X11_212 dX11_next_106 is_141 (by omega) rfl (fun σ402 eσ402 => ?_)
          refine dk_goto (tgt := 377) hE dX11_next_109 (by decide) ?_
          have hz403 : σ402 141 3 = v4 := by rw [eσ402, dk_up_n (show ¬ (141 = 141 ∧ 3 = 7) by omega), hv401]
          have hz404 : σ402 141 4 = σ 141 4 := by rw [eσ402, dk_up_n (show ¬ (141 = 141 ∧ 4 = 7) by omega), eσ400, dk_up_n (show ¬ (141 = 141 ∧ 4 = 6) by omega), eσ398, dk_up_n (show ¬ (141 = 141 ∧ 4 = 8) by omega), eσ12, dk_up_n (show ¬ (141 = 141 ∧ 4 = 7) by omega), hF8 141 4 (by omega), eσ2, dk_up_n (show ¬ (141 = 141 ∧ 4 = 6) by omega)]
          have hz405 : σ402 141 6 = v4 := by rw [eσ402, dk_up_n (show ¬ (141 = 141 ∧ 6 = 7) by omega), eσ400, dk_up_s]
          have hz406 : σ402 141 7 = v4 := by rw [eσ402, dk_up_s]
          have hz407 : σ402 141 8 = 0 := by rw [eσ402, dk_up_n (show ¬ (141 = 141 ∧ 8 = 7) by omega), eσ400, dk_up_n (show ¬ (141 = 141 ∧ 8 = 6) by omega), eσ398, dk_up_s]
          exact dk_vret (st := []) hE hR dX11_next_377 ⟨rfl, (fun k_ j_ h_ => by rw [eσ402, dk_up_n (show ¬ (k_ = 141 ∧ j_ = 7) from fun q_ => h_ (Or.inr (Or.inl (q_)))), eσ400, dk_up_n (show ¬ (k_ = 141 ∧ j_ = 6) from fun q_ => h_ (Or.inl (q_))), eσ398, dk_up_n (show ¬ (k_ = 141 ∧ j_ = 8) from fun q_ => h_ (Or.inr (Or.inr (Or.inl (q_))))), eσ12, dk_up_n (show ¬ (k_ = 141 ∧ j_ = 7) from fun q_ => h_ (Or.inr (Or.inl (q_)))), hF8 k_ j_ (fun w_ => h_ (Or.inl (w_))), eσ2, dk_up_n (show ¬ (k_ = 141 ∧ j_ = 6) from fun q_ => h_ (Or.inl (q_)))]), ⟨NY_of (by omega) (by omega) (by omega), by omega⟩⟩
      · skip
        refine dk_aload_n (pc' := 20) hE dX11_next_19 rfl rfl rfl ?_
        refine dk_aload_n (pc' := 21) hE dX11_next_20 rfl rfl rfl ?_
        refine gf_11_6 (pc' := 24) hE fl_X11_215 dX11_next_21 is_141 rfl (fun v408 hv408 htv408 hbv408 => ?_)
        have hq408 : v3 = v408 := (show v408 = v3 by rw [hv408, hv3]).symm
        subst hq408
        clear htv408 hbv408
        refine dk_cV (pc' := 27) (as := [(0, v3)]) hE lk_X11_218 (ct_X11_sign l G hGd v3) dX11_next_24 rfl is_141 rfl (by decide) (Nat.le_of_ble_eq_true rfl) ⟨rfl, (by omega)⟩ rfl (fun r410 σ409 hr410 hor410 => ?_)
        obtain ⟨v411, rfl, hfσ409, hpr410⟩ := hr410
        have hsσ409 : σ8c = σ409 := (funext (fun k => funext (fun j => hfσ409 k j not_false))).symm
        subst hsσ409
        refine dk_bipush (pc' := 29) hE dX11_next_27 (by decide) rfl ?_
        refine dk_icmp_eq (tgt := 45) (pc' := 32) hE dX11_next_29 (by decide) rfl (fun hc412 => ?_) (fun hc412 => ?_)
        · skip
          refine dk_aload_n (pc' := 46) hE dX11_next_45 rfl rfl rfl ?_
          refine dk_dup (pc' := 47) hE dX11_next_46 (show (4 : Nat) ≠ 3 by decide) rfl ?_
          refine gf_11_6 (pc' := 50) hE fl_X11_215 dX11_next_47 is_141 rfl (fun v413 hv413 htv413 hbv413 => ?_)
          have hq413 : v3 = v413 := (show v413 = v3 by rw [hv413, hv408]).symm
          subst hq413
          clear htv413 hbv413
          refine dk_iconst (pc' := 51) hE dX11_next_50 (by decide) rfl ?_
          obtain ⟨v414, hv414⟩ : ∃ z : Int, z = v3 + 1 := ⟨_, rfl⟩
          refine dk_iadd (pc' := 52) hE dX11_next_51 hv414.symm (by omega) rfl ?_
          refine pf_11_6 (pc' := 55) hE fl_X11_215 dX11_next_52 is_141 (by omega) rfl (fun σ415 eσ415 => ?_)
          refine dk_goto (tgt := 8) hE dX11_next_55 (by decide) ?_
          have hz415_141_6 : σ415 141 6 = v414 := by rw [eσ415, dk_up_s]
          have hz416_141_3 := (show σ415 141 3 = _ by rw [eσ415, dk_up_n (show ¬ (141 = 141 ∧ 3 = 6) by omega)])
          exact ih8 σ415 (by omega) (fun k_ j_ h_ => by rw [eσ415, dk_up_n (show ¬ (k_ = 141 ∧ j_ = 6) from fun q_ => h_ (q_)), hF8 k_ j_ (fun w_ => h_ (w_))]) (by omega) (by omega)
        · skip
          refine dk_aload_n (pc' := 33) hE dX11_next_32 rfl rfl rfl ?_
          refine dk_aload_n (pc' := 34) hE dX11_next_33 rfl rfl rfl ?_
          refine gf_11_6 (pc' := 37) hE fl_X11_215 dX11_next_34 is_141 rfl (fun v418 hv418 htv418 hbv418 => ?_)
          have hq418 : v3 = v418 := (show v418 = v3 by rw [hv418, hv408]).symm
          subst hq418
          clear htv418 hbv418
          refine dk_cV (pc' := 40) (as := [(0, v3)]) hE lk_X11_218 (ct_X11_sign l G hGd v3) dX11_next_37 rfl is_141 rfl (by decide) (Nat.le_of_ble_eq_true rfl) ⟨rfl, (by omega)⟩ rfl (fun r420 σ419 hr420 hor420 => ?_)
          obtain ⟨v421, rfl, hfσ419, hpr420⟩ := hr420
          have hsσ419 : σ8c = σ419 := (funext (fun k => funext (fun j => hfσ419 k j not_false))).symm
          subst hsσ419
          refine dk_bipush (pc' := 42) hE dX11_next_40 (by decide) rfl ?_
          refine dk_icmp_ne (tgt := 58) (pc' := 45) hE dX11_next_42 (by decide) rfl (fun hc422 => ?_) (fun hc422 => ?_)
          · skip
            refine dk_aload_n (pc' := 59) hE dX11_next_58 rfl rfl rfl ?_
            refine dk_aload_n (pc' := 60) hE dX11_next_59 rfl rfl rfl ?_
            refine gf_11_6 (pc' := 63) hE fl_X11_215 dX11_next_60 is_141 rfl (fun v423 hv423 htv423 hbv423 => ?_)
            have hq423 : v3 = v423 := (show v423 = v3 by rw [hv423, hv418]).symm
            subst hq423
            clear htv423 hbv423
            refine dk_cV (pc' := 66) (as := [(0, v3)]) hE lk_X11_218 (ct_X11_sign l G hGd v3) dX11_next_63 rfl is_141 rfl (by decide) (Nat.le_of_ble_eq_true rfl) ⟨rfl, (by omega)⟩ rfl (fun r425 σ424 hr425 hor425 => ?_)
            obtain ⟨v426, rfl, hfσ424, hpr425⟩ := hr425
            have hsσ424 : σ8c = σ424 := (funext (fun k => funext (fun j => hfσ424 k j not_false))).symm
            subst hsσ424
            refine dk_istore_n (pc' := 67) (ls' := [(4, 141), (0, v426), (9, 0)]) hE dX11_next_66 rfl rfl (by decide) rfl ?_
            refine dk_aload_n (pc' := 68) hE dX11_next_67 rfl rfl rfl ?_
            refine dk_aload_n (pc' := 69) hE dX11_next_68 rfl rfl rfl ?_
            refine gf_11_6 (pc' := 72) hE fl_X11_215 dX11_next_69 is_141 rfl (fun v427 hv427 htv427 hbv427 => ?_)
            have hq427 : v3 = v427 := (show v427 = v3 by rw [hv427, hv423]).symm
            subst hq427
            clear htv427 hbv427
            refine dk_iconst (pc' := 73) hE dX11_next_72 (by decide) rfl ?_
            obtain ⟨v428, hv428⟩ : ∃ z : Int, z = v3 + 1 := ⟨_, rfl⟩
            refine dk_iadd (pc' := 74) hE dX11_next_73 hv428.symm (by omega) rfl ?_
            refine pf_11_7 (pc' := 77) hE fl_X11_212 dX11_next_74 is_141 (by omega) rfl (fun σ429 eσ429 => ?_)
            refine dk_aload_n (pc' := 78) hE dX11_next_77 rfl rfl rfl ?_
            refine gf_11_6 (pc' := 81) hE fl_X11_215 dX11_next_78 is_141 rfl (fun v430 hv430 htv430 hbv430 => ?_)
            have hq430 : v3 = v430 := (show v430 = v3 by rw [hv430, eσ429, dk_up_n (show ¬ (141 = 141 ∧ 6 = 7) by omega), hv427]).symm
            subst hq430
            clear htv430 hbv430
            refine dk_aload_n (pc' := 82) hE dX11_next_81 rfl rfl rfl ?_
            refine gf_11_3 (pc' := 85) hE fl_X11_164 dX11_next_82 is_141 rfl (fun v431 hv431 htv431 hbv431 => ?_)
            have hq431 : v4 = v431 := (show v431 = v4 by rw [hv431, eσ429, dk_up_n (show ¬ (141 = 141 ∧ 3 = 7) by omega), hv4]).symm
            subst hq431
            clear htv431 hbv431
            refine dk_icmp_lt (tgt := 112) (pc' := 88) hE dX11_next_85 (by decide) rfl (fun hc432 => ?_) (fun hc432 => ?_)
            · skip
              refine dk_iload_n (pc' := 113) hE dX11_next_112 rfl rfl rfl ?_
              refine dk_cS (pc' := 116) (as := [(0, v426)]) hE lk_X11_225 (ct_X11_isLetter l G hGd v426) dX11_next_113 rfl rfl (by decide) (Nat.le_of_ble_eq_true rfl) rfl rfl (fun r434 σ433 hr434 hor434 => ?_)
              obtain ⟨v435, rfl, hfσ433, hpr434⟩ := hr434
              have hsσ433 : σ429 = σ433 := (funext (fun k => funext (fun j => hfσ433 k j not_false))).symm
              subst hsσ433
              rcases hpr434 with ⟨rfl, hpr434⟩ | ⟨rfl, hpr434⟩
              · skip
                refine dk_if_eq (tgt := 239) (pc' := 119) hE dX11_next_116 (by decide) rfl (fun hc436 => absurd hc436 (by decide)) (fun hc436 => ?_)
                have lp119 : ∀ (N_ : Nat) (σ119c : dkS), (1402 - σ119c 141 7).toNat < N_ → ((∀ k_ j_ : Int, ¬ ((k_ = 141 ∧ j_ = 7)) → σ119c k_ j_ = σ429 k_ j_)) → (σ119c 141 6 < σ119c 141 7 ∧ σ119c 141 7 ≤ σ 141 3 ∧ σ 141 7 ≤ σ119c 141 6) → (σ119c 141 3 = σ 141 3 ∧ σ119c 141 4 = σ 141 4) → dk_PJ E 119 [(4, 141), (0, v426), (9, 0)] [] 190 σ119c := by
                  intro N119
                  induction N119 with
                  | zero => intro  σ119c hm; exact absurd hm (Nat.not_lt_zero _)
                  | succ N119 ih119 =>
                    intro  σ119c hm119 hF119 hb hs4
                    refine dk_aload_n (pc' := 120) hE dX11_next_119 rfl rfl rfl ?_
                    refine dk_aload_n (pc' := 121) hE dX11_next_120 rfl rfl rfl ?_
                    refine gf_11_7 (pc' := 124) hE fl_X11_212 dX11_next_121 is_141 rfl (fun v437 hv437 htv437 hbv437 => ?_)
                    refine dk_cV (pc' := 127) (as := [(0, v437)]) hE lk_X11_218 (ct_X11_sign l G hGd v437) dX11_next_124 rfl is_141 rfl (by decide) (Nat.le_of_ble_eq_true rfl) ⟨rfl, (by omega)⟩ rfl (fun r439 σ438 hr439 hor439 => ?_)
                    obtain ⟨v440, rfl, hfσ438, hpr439⟩ := hr439
                    have hsσ438 : σ119c = σ438 := (funext (fun k => funext (fun j => hfσ438 k j not_false))).symm
                    subst hsσ438
                    refine dk_cS (pc' := 130) (as := [(0, v440)]) hE lk_X11_225 (ct_X11_isLetter l G hGd v440) dX11_next_127 rfl rfl (by decide) (Nat.le_of_ble_eq_true rfl) rfl rfl (fun r442 σ441 hr442 hor442 => ?_)
                    obtain ⟨v443, rfl, hfσ441, hpr442⟩ := hr442
                    have hsσ441 : σ119c = σ441 := (funext (fun k => funext (fun j => hfσ441 k j not_false))).symm
                    subst hsσ441
                    rcases hpr442 with ⟨rfl, hpr442⟩ | ⟨rfl, hpr442⟩
                    · skip
                      refine dk_if_eq (tgt := 146) (pc' := 133) hE dX11_next_130 (by decide) rfl (fun hc444 => absurd hc444 (by decide)) (fun hc444 => ?_)
                      refine dk_aload_n (pc' := 134) hE dX11_next_133 rfl rfl rfl ?_
                      refine dk_dup (pc' := 135) hE dX11_next_134 (show (4 : Nat) ≠ 3 by decide) rfl ?_
                      refine gf_11_7 (pc' := 138) hE fl_X11_212 dX11_next_135 is_141 rfl (fun v445 hv445 htv445 hbv445 => ?_)
                      have hq445 : v437 = v445 := (show v445 = v437 by rw [hv445, hv437]).symm
                      subst hq445
                      clear htv445 hbv445
                      refine dk_iconst (pc' := 139) hE dX11_next_138 (by decide) rfl ?_
                      obtain ⟨v446, hv446⟩ : ∃ z : Int, z = v437 + 1 := ⟨_, rfl⟩
                      refine dk_iadd (pc' := 140) hE dX11_next_139 hv446.symm (by omega) rfl ?_
                      refine pf_11_7 (pc' := 143) hE fl_X11_212 dX11_next_140 is_141 (by omega) rfl (fun σ447 eσ447 => ?_)
                      refine dk_goto (tgt := 119) hE dX11_next_143 (by decide) ?_
                      have hz447_141_6 := (show σ447 141 6 = _ by rw [eσ447, dk_up_n (show ¬ (141 = 141 ∧ 6 = 7) by omega)])
                      have hz448_141_7 : σ447 141 7 = v446 := by rw [eσ447, dk_up_s]
                      have hz449_141_3 := (show σ447 141 3 = _ by rw [eσ447, dk_up_n (show ¬ (141 = 141 ∧ 3 = 7) by omega)])
                      have hz450_141_4 := (show σ447 141 4 = _ by rw [eσ447, dk_up_n (show ¬ (141 = 141 ∧ 4 = 7) by omega)])
                      exact ih119 σ447 (by omega) (fun k_ j_ h_ => by rw [eσ447, dk_up_n (show ¬ (k_ = 141 ∧ j_ = 7) from fun q_ => h_ (q_)), hF119 k_ j_ (fun w_ => h_ (w_))]) (by omega) (by omega)
                    · skip
                      refine dk_if_eq (tgt := 146) (pc' := 133) hE dX11_next_130 (by decide) rfl (fun hc452 => ?_) (fun hc452 => absurd hc452 (by decide))
                      refine dk_aload_n (pc' := 147) hE dX11_next_146 rfl rfl rfl ?_
                      refine dk_lconst (pc' := 148) hE dX11_next_147 (w := 0) rfl rfl ?_
                      refine pf_11_10 (pc' := 151) hE fl_X11_229 dX11_next_148 is_141 trivial rfl (fun σ453 eσ453 => ?_)
                      refine dk_aload_n (pc' := 152) hE dX11_next_151 rfl rfl rfl ?_
                      refine gf_11_6 (pc' := 155) hE fl_X11_215 dX11_next_152 is_141 rfl (fun v454 hv454 htv454 hbv454 => ?_)
                      have hq454 : v3 = v454 := (show v454 = v3 by rw [hv454, eσ453, dk_up_n (show ¬ (141 = 141 ∧ 6 = 10) by omega), hF119 141 6 (by omega), hv430]).symm
                      subst hq454
                      clear htv454 hbv454
                      refine dk_istore_n (pc' := 156) (ls' := [(4, 141), (0, v426), (0, v3)]) hE dX11_next_155 rfl rfl (by decide) rfl ?_
                      have lp156 : ∀ (N_ : Nat) (k : Int) (σ156c : dkS), (2147483648 - k).toNat < N_ → ((∀ k_ j_ : Int, ¬ ((k_ = 141 ∧ j_ = 10)) → σ156c k_ j_ = σ453 k_ j_)) → (0 ≤ k) → (σ156c 141 6 < σ156c 141 7 ∧ σ156c 141 7 ≤ σ 141 3 ∧ σ 141 7 ≤ σ156c 141 6) → (σ156c 141 3 = σ 141 3 ∧ σ156c 141 4 = σ 141 4) → dk_PJ E 156 [(4, 141), (0, v426), (0, k)] [] 190 σ156c := by
                        intro N156
                        induction N156 with
                        | zero => intro k σ156c hm; exact absurd hm (Nat.not_lt_zero _)
                        | succ N156 ih156 =>
                          intro k σ156c hm156 hF156 hk hc hs5
                          refine dk_iload_n (pc' := 157) hE dX11_next_156 rfl rfl rfl ?_
                          refine dk_aload_n (pc' := 158) hE dX11_next_157 rfl rfl rfl ?_
                          refine gf_11_7 (pc' := 161) hE fl_X11_212 dX11_next_158 is_141 rfl (fun v455 hv455 htv455 hbv455 => ?_)
                          have hq455 : v437 = v455 := (show v455 = v437 by rw [hv455, hF156 141 7 (by omega), eσ453, dk_up_n (show ¬ (141 = 141 ∧ 7 = 10) by omega), hv437]).symm
                          subst hq455
                          clear htv455 hbv455
                          refine dk_icmp_ge (tgt := 199) (pc' := 164) hE dX11_next_161 (by decide) rfl (fun hc456 => ?_) (fun hc456 => ?_)
                          · skip
                            refine dk_aload_n (pc' := 200) hE dX11_next_199 rfl rfl rfl ?_
                            refine dk_aload_n (pc' := 201) hE dX11_next_200 rfl rfl rfl ?_
                            refine gf_11_7 (pc' := 204) hE fl_X11_212 dX11_next_201 is_141 rfl (fun v457 hv457 htv457 hbv457 => ?_)
                            have hq457 : v437 = v457 := (show v457 = v437 by rw [hv457, hv455]).symm
                            subst hq457
                            clear htv457 hbv457
                            refine dk_aload_n (pc' := 205) hE dX11_next_204 rfl rfl rfl ?_
                            refine gf_11_6 (pc' := 208) hE fl_X11_215 dX11_next_205 is_141 rfl (fun v458 hv458 htv458 hbv458 => ?_)
                            have hq458 : v3 = v458 := (show v458 = v3 by rw [hv458, hF156 141 6 (by omega), hv454]).symm
                            subst hq458
                            clear htv458 hbv458
                            obtain ⟨v459, hv459⟩ : ∃ z : Int, z = v437 - v3 := ⟨_, rfl⟩
                            refine dk_isub (pc' := 209) hE dX11_next_208 hv459.symm (by omega) rfl ?_
                            refine dk_bipush (pc' := 211) hE dX11_next_209 (by decide) rfl ?_
                            refine dk_icmp_le (tgt := 218) (pc' := 214) hE dX11_next_211 (by decide) rfl (fun hc460 => ?_) (fun hc460 => ?_)
                            · skip
                              refine dk_aload_n (pc' := 219) hE dX11_next_218 rfl rfl rfl ?_
                              refine gf_11_10 (pc' := 222) hE fl_X11_229 dX11_next_219 is_141 rfl (fun v461 hv461 htv461 hbv461 => ?_)
                              refine dk_cS (pc' := 225) (as := [(3, v461)]) hE lk_X11_233 (ct_X11_isKept l G hGd v461) dX11_next_222 rfl rfl (by decide) (Nat.le_of_ble_eq_true rfl) rfl rfl (fun r463 σ462 hr463 hor463 => ?_)
                              obtain ⟨v464, rfl, hfσ462, hpr463⟩ := hr463
                              have hsσ462 : σ156c = σ462 := (funext (fun k => funext (fun j => hfσ462 k j not_false))).symm
                              subst hsσ462
                              refine dk_if_eq (tgt := 232) (pc' := 228) hE dX11_next_225 (by decide) rfl (fun hc465 => ?_) (fun hc465 => ?_)
                              · skip
                                refine dk_iconst (pc' := 233) hE dX11_next_232 (by decide) rfl ?_
                                refine pf_11_8 (pc' := 236) hE fl_X11_222 dX11_next_233 is_141 (by omega) rfl (fun σ466 eσ466 => ?_)
                                refine dk_goto (tgt := 377) hE dX11_next_236 (by decide) ?_
                                have hz467 : σ466 141 3 = v4 := by rw [eσ466, dk_up_n (show ¬ (141 = 141 ∧ 3 = 8) by omega), hF156 141 3 (by omega), eσ453, dk_up_n (show ¬ (141 = 141 ∧ 3 = 10) by omega), hF119 141 3 (by omega), hv431]
                                have hz468 : σ466 141 4 = σ 141 4 := by rw [eσ466, dk_up_n (show ¬ (141 = 141 ∧ 4 = 8) by omega), hF156 141 4 (by omega), eσ453, dk_up_n (show ¬ (141 = 141 ∧ 4 = 10) by omega), hF119 141 4 (by omega), eσ429, dk_up_n (show ¬ (141 = 141 ∧ 4 = 7) by omega), hF8 141 4 (by omega), eσ2, dk_up_n (show ¬ (141 = 141 ∧ 4 = 6) by omega)]
                                have hz469 : σ466 141 6 = v3 := by rw [eσ466, dk_up_n (show ¬ (141 = 141 ∧ 6 = 8) by omega), hv458]
                                have hz470 : σ466 141 7 = v437 := by rw [eσ466, dk_up_n (show ¬ (141 = 141 ∧ 7 = 8) by omega), hv457]
                                have hz471 : σ466 141 8 = 2 := by rw [eσ466, dk_up_s]
                                exact dk_vret (st := []) hE hR dX11_next_377 ⟨rfl, (fun k_ j_ h_ => by rw [eσ466, dk_up_n (show ¬ (k_ = 141 ∧ j_ = 8) from fun q_ => h_ (Or.inr (Or.inr (Or.inl (q_))))), hF156 k_ j_ (fun w_ => h_ (Or.inr (Or.inr (Or.inr (Or.inr (w_)))))), eσ453, dk_up_n (show ¬ (k_ = 141 ∧ j_ = 10) from fun q_ => h_ (Or.inr (Or.inr (Or.inr (Or.inr (q_)))))), hF119 k_ j_ (fun w_ => h_ (Or.inr (Or.inl (w_)))), eσ429, dk_up_n (show ¬ (k_ = 141 ∧ j_ = 7) from fun q_ => h_ (Or.inr (Or.inl (q_)))), hF8 k_ j_ (fun w_ => h_ (Or.inl (w_))), eσ2, dk_up_n (show ¬ (k_ = 141 ∧ j_ = 6) from fun q_ => h_ (Or.inl (q_)))]), ⟨NY_of (by omega) (by omega) (by omega), by omega⟩⟩
                              · skip
                                refine dk_iconst (pc' := 229) hE dX11_next_228 (by decide) rfl ?_
                                refine dk_goto (tgt := 233) hE dX11_next_229 (by decide) ?_
                                refine pf_11_8 (pc' := 236) hE fl_X11_222 dX11_next_233 is_141 (by omega) rfl (fun σ472 eσ472 => ?_)
                                refine dk_goto (tgt := 377) hE dX11_next_236 (by decide) ?_
                                have hz473 : σ472 141 3 = v4 := by rw [eσ472, dk_up_n (show ¬ (141 = 141 ∧ 3 = 8) by omega), hF156 141 3 (by omega), eσ453, dk_up_n (show ¬ (141 = 141 ∧ 3 = 10) by omega), hF119 141 3 (by omega), hv431]
                                have hz474 : σ472 141 4 = σ 141 4 := by rw [eσ472, dk_up_n (show ¬ (141 = 141 ∧ 4 = 8) by omega), hF156 141 4 (by omega), eσ453, dk_up_n (show ¬ (141 = 141 ∧ 4 = 10) by omega), hF119 141 4 (by omega), eσ429, dk_up_n (show ¬ (141 = 141 ∧ 4 = 7) by omega), hF8 141 4 (by omega), eσ2, dk_up_n (show ¬ (141 = 141 ∧ 4 = 6) by omega)]
                                have hz475 : σ472 141 6 = v3 := by rw [eσ472, dk_up_n (show ¬ (141 = 141 ∧ 6 = 8) by omega), hv458]
                                have hz476 : σ472 141 7 = v437 := by rw [eσ472, dk_up_n (show ¬ (141 = 141 ∧ 7 = 8) by omega), hv457]
                                have hz477 : σ472 141 8 = 3 := by rw [eσ472, dk_up_s]
                                exact dk_vret (st := []) hE hR dX11_next_377 ⟨rfl, (fun k_ j_ h_ => by rw [eσ472, dk_up_n (show ¬ (k_ = 141 ∧ j_ = 8) from fun q_ => h_ (Or.inr (Or.inr (Or.inl (q_))))), hF156 k_ j_ (fun w_ => h_ (Or.inr (Or.inr (Or.inr (Or.inr (w_)))))), eσ453, dk_up_n (show ¬ (k_ = 141 ∧ j_ = 10) from fun q_ => h_ (Or.inr (Or.inr (Or.inr (Or.inr (q_)))))), hF119 k_ j_ (fun w_ => h_ (Or.inr (Or.inl (w_)))), eσ429, dk_up_n (show ¬ (k_ = 141 ∧ j_ = 7) from fun q_ => h_ (Or.inr (Or.inl (q_)))), hF8 k_ j_ (fun w_ => h_ (Or.inl (w_))), eσ2, dk_up_n (show ¬ (k_ = 141 ∧ j_ = 6) from fun q_ => h_ (Or.inl (q_)))]), ⟨NY_of (by omega) (by omega) (by omega), by omega⟩⟩
                            · skip
                              refine dk_iconst (pc' := 215) hE dX11_next_214 (by decide) rfl ?_
                              refine dk_goto (tgt := 233) hE dX11_next_215 (by decide) ?_
                              refine pf_11_8 (pc' := 236) hE fl_X11_222 dX11_next_233 is_141 (by omega) rfl (fun σ478 eσ478 => ?_)
                              refine dk_goto (tgt := 377) hE dX11_next_236 (by decide) ?_
                              have hz479 : σ478 141 3 = v4 := by rw [eσ478, dk_up_n (show ¬ (141 = 141 ∧ 3 = 8) by omega), hF156 141 3 (by omega), eσ453, dk_up_n (show ¬ (141 = 141 ∧ 3 = 10) by omega), hF119 141 3 (by omega), hv431]
                              have hz480 : σ478 141 4 = σ 141 4 := by rw [eσ478, dk_up_n (show ¬ (141 = 141 ∧ 4 = 8) by omega), hF156 141 4 (by omega), eσ453, dk_up_n (show ¬ (141 = 141 ∧ 4 = 10) by omega), hF119 141 4 (by omega), eσ429, dk_up_n (show ¬ (141 = 141 ∧ 4 = 7) by omega), hF8 141 4 (by omega), eσ2, dk_up_n (show ¬ (141 = 141 ∧ 4 = 6) by omega)]
                              have hz481 : σ478 141 6 = v3 := by rw [eσ478, dk_up_n (show ¬ (141 = 141 ∧ 6 = 8) by omega), hv458]
                              have hz482 : σ478 141 7 = v437 := by rw [eσ478, dk_up_n (show ¬ (141 = 141 ∧ 7 = 8) by omega), hv457]
                              have hz483 : σ478 141 8 = 1 := by rw [eσ478, dk_up_s]
                              exact dk_vret (st := []) hE hR dX11_next_377 ⟨rfl, (fun k_ j_ h_ => by rw [eσ478, dk_up_n (show ¬ (k_ = 141 ∧ j_ = 8) from fun q_ => h_ (Or.inr (Or.inr (Or.inl (q_))))), hF156 k_ j_ (fun w_ => h_ (Or.inr (Or.inr (Or.inr (Or.inr (w_)))))), eσ453, dk_up_n (show ¬ (k_ = 141 ∧ j_ = 10) from fun q_ => h_ (Or.inr (Or.inr (Or.inr (Or.inr (q_)))))), hF119 k_ j_ (fun w_ => h_ (Or.inr (Or.inl (w_)))), eσ429, dk_up_n (show ¬ (k_ = 141 ∧ j_ = 7) from fun q_ => h_ (Or.inr (Or.inl (q_)))), hF8 k_ j_ (fun w_ => h_ (Or.inl (w_))), eσ2, dk_up_n (show ¬ (k_ = 141 ∧ j_ = 6) from fun q_ => h_ (Or.inl (q_)))]), ⟨NY_of (by omega) (by omega) (by omega), by omega⟩⟩
                          · skip
                            refine dk_iload_n (pc' := 165) hE dX11_next_164 rfl rfl rfl ?_
                            refine dk_aload_n (pc' := 166) hE dX11_next_165 rfl rfl rfl ?_
                            refine gf_11_6 (pc' := 169) hE fl_X11_215 dX11_next_166 is_141 rfl (fun v484 hv484 htv484 hbv484 => ?_)
                            have hq484 : v3 = v484 := (show v484 = v3 by rw [hv484, hF156 141 6 (by omega), hv454]).symm
                            subst hq484
                            clear htv484 hbv484
                            refine dk_bipush (pc' := 171) hE dX11_next_169 (by decide) rfl ?_
                            obtain ⟨v485, hv485⟩ : ∃ z : Int, z = v3 + 8 := ⟨_, rfl⟩
                            refine dk_iadd (pc' := 172) hE dX11_next_171 hv485.symm (by omega) rfl ?_
                            refine dk_icmp_ge (tgt := 199) (pc' := 175) hE dX11_next_172 (by decide) rfl (fun hc486 => ?_) (fun hc486 => ?_)
                            · skip
                              refine dk_aload_n (pc' := 200) hE dX11_next_199 rfl rfl rfl ?_
                              refine dk_aload_n (pc' := 201) hE dX11_next_200 rfl rfl rfl ?_
                              refine gf_11_7 (pc' := 204) hE fl_X11_212 dX11_next_201 is_141 rfl (fun v487 hv487 htv487 hbv487 => ?_)
                              have hq487 : v437 = v487 := (show v487 = v437 by rw [hv487, hv455]).symm
                              subst hq487
                              clear htv487 hbv487
                              refine dk_aload_n (pc' := 205) hE dX11_next_204 rfl rfl rfl ?_
                              refine gf_11_6 (pc' := 208) hE fl_X11_215 dX11_next_205 is_141 rfl (fun v488 hv488 htv488 hbv488 => ?_)
                              have hq488 : v3 = v488 := (show v488 = v3 by rw [hv488, hv484]).symm
                              subst hq488
                              clear htv488 hbv488
                              obtain ⟨v489, hv489⟩ : ∃ z : Int, z = v437 - v3 := ⟨_, rfl⟩
                              refine dk_isub (pc' := 209) hE dX11_next_208 hv489.symm (by omega) rfl ?_
                              refine dk_bipush (pc' := 211) hE dX11_next_209 (by decide) rfl ?_
                              refine dk_icmp_le (tgt := 218) (pc' := 214) hE dX11_next_211 (by decide) rfl (fun hc490 => ?_) (fun hc490 => ?_)
                              · skip
                                refine dk_aload_n (pc' := 219) hE dX11_next_218 rfl rfl rfl ?_
                                refine gf_11_10 (pc' := 222) hE fl_X11_229 dX11_next_219 is_141 rfl (fun v491 hv491 htv491 hbv491 => ?_)
                                refine dk_cS (pc' := 225) (as := [(3, v491)]) hE lk_X11_233 (ct_X11_isKept l G hGd v491) dX11_next_222 rfl rfl (by decide) (Nat.le_of_ble_eq_true rfl) rfl rfl (fun r493 σ492 hr493 hor493 => ?_)
                                obtain ⟨v494, rfl, hfσ492, hpr493⟩ := hr493
                                have hsσ492 : σ156c = σ492 := (funext (fun k => funext (fun j => hfσ492 k j not_false))).symm
                                subst hsσ492
                                refine dk_if_eq (tgt := 232) (pc' := 228) hE dX11_next_225 (by decide) rfl (fun hc495 => ?_) (fun hc495 => ?_)
                                · skip
                                  refine dk_iconst (pc' := 233) hE dX11_next_232 (by decide) rfl ?_
                                  refine pf_11_8 (pc' := 236) hE fl_X11_222 dX11_next_233 is_141 (by omega) rfl (fun σ496 eσ496 => ?_)
                                  refine dk_goto (tgt := 377) hE dX11_next_236 (by decide) ?_
                                  have hz497 : σ496 141 3 = v4 := by rw [eσ496, dk_up_n (show ¬ (141 = 141 ∧ 3 = 8) by omega), hF156 141 3 (by omega), eσ453, dk_up_n (show ¬ (141 = 141 ∧ 3 = 10) by omega), hF119 141 3 (by omega), hv431]
                                  have hz498 : σ496 141 4 = σ 141 4 := by rw [eσ496, dk_up_n (show ¬ (141 = 141 ∧ 4 = 8) by omega), hF156 141 4 (by omega), eσ453, dk_up_n (show ¬ (141 = 141 ∧ 4 = 10) by omega), hF119 141 4 (by omega), eσ429, dk_up_n (show ¬ (141 = 141 ∧ 4 = 7) by omega), hF8 141 4 (by omega), eσ2, dk_up_n (show ¬ (141 = 141 ∧ 4 = 6) by omega)]
                                  have hz499 : σ496 141 6 = v3 := by rw [eσ496, dk_up_n (show ¬ (141 = 141 ∧ 6 = 8) by omega), hv488]
                                  have hz500 : σ496 141 7 = v437 := by rw [eσ496, dk_up_n (show ¬ (141 = 141 ∧ 7 = 8) by omega), hv487]
                                  have hz501 : σ496 141 8 = 2 := by rw [eσ496, dk_up_s]
                                  exact dk_vret (st := []) hE hR dX11_next_377 ⟨rfl, (fun k_ j_ h_ => by rw [eσ496, dk_up_n (show ¬ (k_ = 141 ∧ j_ = 8) from fun q_ => h_ (Or.inr (Or.inr (Or.inl (q_))))), hF156 k_ j_ (fun w_ => h_ (Or.inr (Or.inr (Or.inr (Or.inr (w_)))))), eσ453, dk_up_n (show ¬ (k_ = 141 ∧ j_ = 10) from fun q_ => h_ (Or.inr (Or.inr (Or.inr (Or.inr (q_)))))), hF119 k_ j_ (fun w_ => h_ (Or.inr (Or.inl (w_)))), eσ429, dk_up_n (show ¬ (k_ = 141 ∧ j_ = 7) from fun q_ => h_ (Or.inr (Or.inl (q_)))), hF8 k_ j_ (fun w_ => h_ (Or.inl (w_))), eσ2, dk_up_n (show ¬ (k_ = 141 ∧ j_ = 6) from fun q_ => h_ (Or.inl (q_)))]), ⟨NY_of (by omega) (by omega) (by omega), by omega⟩⟩
                                · skip
                                  refine dk_iconst (pc' := 229) hE dX11_next_228 (by decide) rfl ?_
                                  refine dk_goto (tgt := 233) hE dX11_next_229 (by decide) ?_
                                  refine pf_11_8 (pc' := 236) hE fl_X11_222 dX11_next_233 is_141 (by omega) rfl (fun σ502 eσ502 => ?_)
                                  refine dk_goto (tgt := 377) hE dX11_next_236 (by decide) ?_
                                  have hz503 : σ502 141 3 = v4 := by rw [eσ502, dk_up_n (show ¬ (141 = 141 ∧ 3 = 8) by omega), hF156 141 3 (by omega), eσ453, dk_up_n (show ¬ (141 = 141 ∧ 3 = 10) by omega), hF119 141 3 (by omega), hv431]
                                  have hz504 : σ502 141 4 = σ 141 4 := by rw [eσ502, dk_up_n (show ¬ (141 = 141 ∧ 4 = 8) by omega), hF156 141 4 (by omega), eσ453, dk_up_n (show ¬ (141 = 141 ∧ 4 = 10) by omega), hF119 141 4 (by omega), eσ429, dk_up_n (show ¬ (141 = 141 ∧ 4 = 7) by omega), hF8 141 4 (by omega), eσ2, dk_up_n (show ¬ (141 = 141 ∧ 4 = 6) by omega)]
                                  have hz505 : σ502 141 6 = v3 := by rw [eσ502, dk_up_n (show ¬ (141 = 141 ∧ 6 = 8) by omega), hv488]
                                  have hz506 : σ502 141 7 = v437 := by rw [eσ502, dk_up_n (show ¬ (141 = 141 ∧ 7 = 8) by omega), hv487]
                                  have hz507 : σ502 141 8 = 3 := by rw [eσ502, dk_up_s]
                                  exact dk_vret (st := []) hE hR dX11_next_377 ⟨rfl, (fun k_ j_ h_ => by rw [eσ502, dk_up_n (show ¬ (k_ = 141 ∧ j_ = 8) from fun q_ => h_ (Or.inr (Or.inr (Or.inl (q_))))), hF156 k_ j_ (fun w_ => h_ (Or.inr (Or.inr (Or.inr (Or.inr (w_)))))), eσ453, dk_up_n (show ¬ (k_ = 141 ∧ j_ = 10) from fun q_ => h_ (Or.inr (Or.inr (Or.inr (Or.inr (q_)))))), hF119 k_ j_ (fun w_ => h_ (Or.inr (Or.inl (w_)))), eσ429, dk_up_n (show ¬ (k_ = 141 ∧ j_ = 7) from fun q_ => h_ (Or.inr (Or.inl (q_)))), hF8 k_ j_ (fun w_ => h_ (Or.inl (w_))), eσ2, dk_up_n (show ¬ (k_ = 141 ∧ j_ = 6) from fun q_ => h_ (Or.inl (q_)))]), ⟨NY_of (by omega) (by omega) (by omega), by omega⟩⟩
                              · skip
                                refine dk_iconst (pc' := 215) hE dX11_next_214 (by decide) rfl ?_
                                refine dk_goto (tgt := 233) hE dX11_next_215 (by decide) ?_
                                refine pf_11_8 (pc' := 236) hE fl_X11_222 dX11_next_233 is_141 (by omega) rfl (fun σ508 eσ508 => ?_)
                                refine dk_goto (tgt := 377) hE dX11_next_236 (by decide) ?_
                                have hz509 : σ508 141 3 = v4 := by rw [eσ508, dk_up_n (show ¬ (141 = 141 ∧ 3 = 8) by omega), hF156 141 3 (by omega), eσ453, dk_up_n (show ¬ (141 = 141 ∧ 3 = 10) by omega), hF119 141 3 (by omega), hv431]
                                have hz510 : σ508 141 4 = σ 141 4 := by rw [eσ508, dk_up_n (show ¬ (141 = 141 ∧ 4 = 8) by omega), hF156 141 4 (by omega), eσ453, dk_up_n (show ¬ (141 = 141 ∧ 4 = 10) by omega), hF119 141 4 (by omega), eσ429, dk_up_n (show ¬ (141 = 141 ∧ 4 = 7) by omega), hF8 141 4 (by omega), eσ2, dk_up_n (show ¬ (141 = 141 ∧ 4 = 6) by omega)]
                                have hz511 : σ508 141 6 = v3 := by rw [eσ508, dk_up_n (show ¬ (141 = 141 ∧ 6 = 8) by omega), hv488]
                                have hz512 : σ508 141 7 = v437 := by rw [eσ508, dk_up_n (show ¬ (141 = 141 ∧ 7 = 8) by omega), hv487]
                                have hz513 : σ508 141 8 = 1 := by rw [eσ508, dk_up_s]
                                exact dk_vret (st := []) hE hR dX11_next_377 ⟨rfl, (fun k_ j_ h_ => by rw [eσ508, dk_up_n (show ¬ (k_ = 141 ∧ j_ = 8) from fun q_ => h_ (Or.inr (Or.inr (Or.inl (q_))))), hF156 k_ j_ (fun w_ => h_ (Or.inr (Or.inr (Or.inr (Or.inr (w_)))))), eσ453, dk_up_n (show ¬ (k_ = 141 ∧ j_ = 10) from fun q_ => h_ (Or.inr (Or.inr (Or.inr (Or.inr (q_)))))), hF119 k_ j_ (fun w_ => h_ (Or.inr (Or.inl (w_)))), eσ429, dk_up_n (show ¬ (k_ = 141 ∧ j_ = 7) from fun q_ => h_ (Or.inr (Or.inl (q_)))), hF8 k_ j_ (fun w_ => h_ (Or.inl (w_))), eσ2, dk_up_n (show ¬ (k_ = 141 ∧ j_ = 6) from fun q_ => h_ (Or.inl (q_)))]), ⟨NY_of (by omega) (by omega) (by omega), by omega⟩⟩
                            · skip
                              refine dk_aload_n (pc' := 176) hE dX11_next_175 rfl rfl rfl ?_
                              refine dk_aload_n (pc' := 177) hE dX11_next_176 rfl rfl rfl ?_
                              refine gf_11_10 (pc' := 180) hE fl_X11_229 dX11_next_177 is_141 rfl (fun v514 hv514 htv514 hbv514 => ?_)
                              refine dk_bipush (pc' := 182) hE dX11_next_180 (by decide) rfl ?_
                              refine dk_lshl (pc' := 183) hE dX11_next_182 rfl (fun v515 hv515 => ?_)
                              refine dk_aload_n (pc' := 184) hE dX11_next_183 rfl rfl rfl ?_
                              refine dk_iload_n (pc' := 185) hE dX11_next_184 rfl rfl rfl ?_
                              refine dk_cV (pc' := 188) (as := [(0, k)]) hE lk_X11_218 (ct_X11_sign l G hGd k) dX11_next_185 rfl is_141 rfl (by decide) (Nat.le_of_ble_eq_true rfl) ⟨rfl, (by omega)⟩ rfl (fun r517 σ516 hr517 hor517 => ?_)
                              obtain ⟨v518, rfl, hfσ516, hpr517⟩ := hr517
                              have hsσ516 : σ156c = σ516 := (funext (fun k => funext (fun j => hfσ516 k j not_false))).symm
                              subst hsσ516
                              refine dk_i2l (pc' := 189) hE dX11_next_188 rfl ?_
                              refine dk_lor (pc' := 190) hE dX11_next_189 rfl (fun v519 hv519 => ?_)
                              refine pf_11_10 (pc' := 193) hE fl_X11_229 dX11_next_190 is_141 trivial rfl (fun σ520 eσ520 => ?_)
                              obtain ⟨v521, hv521⟩ : ∃ z : Int, z = k + 1 := ⟨_, rfl⟩
                              refine dk_iinc (pc' := 196) (ls' := [(4, 141), (0, v426), (0, v521)]) hE dX11_next_193 rfl hv521.symm (by omega) rfl (by decide) rfl ?_
                              refine dk_goto (tgt := 156) hE dX11_next_196 (by decide) ?_
                              have hz521_141_6 := (show σ520 141 6 = _ by rw [eσ520, dk_up_n (show ¬ (141 = 141 ∧ 6 = 10) by omega)])
                              have hz522_141_7 := (show σ520 141 7 = _ by rw [eσ520, dk_up_n (show ¬ (141 = 141 ∧ 7 = 10) by omega)])
                              have hz523_141_3 := (show σ520 141 3 = _ by rw [eσ520, dk_up_n (show ¬ (141 = 141 ∧ 3 = 10) by omega)])
                              have hz524_141_4 := (show σ520 141 4 = _ by rw [eσ520, dk_up_n (show ¬ (141 = 141 ∧ 4 = 10) by omega)])
                              exact ih156 v521 σ520 (by omega) (fun k_ j_ h_ => by rw [eσ520, dk_up_n (show ¬ (k_ = 141 ∧ j_ = 10) from fun q_ => h_ (q_)), hF156 k_ j_ (fun w_ => h_ (w_))]) (by omega) (by omega) (by omega)
                      have hz526 : σ453 141 6 = v3 := by rw [hv454]
                      have hz527 : σ453 141 7 = v437 := by rw [eσ453, dk_up_n (show ¬ (141 = 141 ∧ 7 = 10) by omega), hv437]
                      have hz528 : σ453 141 7 = v437 := by rw [eσ453, dk_up_n (show ¬ (141 = 141 ∧ 7 = 10) by omega), hv437]
                      have hz529 : σ453 141 6 = v3 := by rw [hv454]
                      have hz530 : σ453 141 3 = v4 := by rw [eσ453, dk_up_n (show ¬ (141 = 141 ∧ 3 = 10) by omega), hF119 141 3 (by omega), hv431]
                      have hz531 : σ453 141 4 = σ 141 4 := by rw [eσ453, dk_up_n (show ¬ (141 = 141 ∧ 4 = 10) by omega), hF119 141 4 (by omega), eσ429, dk_up_n (show ¬ (141 = 141 ∧ 4 = 7) by omega), hF8 141 4 (by omega), eσ2, dk_up_n (show ¬ (141 = 141 ∧ 4 = 6) by omega)]
                      exact lp156 _ v3 σ453 (Nat.lt_succ_self _) (fun k_ j_ h_ => rfl) (by omega) (by omega) (by omega)
                have hz536 : σ429 141 6 = v3 := by rw [hv430]
                have hz537 : σ429 141 7 = v428 := by rw [eσ429, dk_up_s]
                have hz538 : σ429 141 7 = v428 := by rw [eσ429, dk_up_s]
                have hz539 : σ429 141 6 = v3 := by rw [hv430]
                have hz540 : σ429 141 3 = v4 := by rw [hv431]
                have hz541 : σ429 141 4 = σ 141 4 := by rw [eσ429, dk_up_n (show ¬ (141 = 141 ∧ 4 = 7) by omega), hF8 141 4 (by omega), eσ2, dk_up_n (show ¬ (141 = 141 ∧ 4 = 6) by omega)]
                have hz542 : σ429 141 7 = v428 := by rw [eσ429, dk_up_s]
                have hz543_141_7 : σ429 141 7 = v428 := by rw [eσ429, dk_up_s]
                exact lp119 _ σ429 (Nat.lt_succ_self _) (fun k_ j_ h_ => rfl) (by omega) (by omega)
              · skip
                refine dk_if_eq (tgt := 239) (pc' := 119) hE dX11_next_116 (by decide) rfl (fun hc547 => ?_) (fun hc547 => absurd hc547 (by decide))
                refine dk_iload_n (pc' := 240) hE dX11_next_239 rfl rfl rfl ?_
                refine dk_cS (pc' := 243) (as := [(0, v426)]) hE lk_X11_237 (ct_X11_isDigit l G hGd v426) dX11_next_240 rfl rfl (by decide) (Nat.le_of_ble_eq_true rfl) rfl rfl (fun r549 σ548 hr549 hor549 => ?_)
                obtain ⟨v550, rfl, hfσ548, hpr549⟩ := hr549
                have hsσ548 : σ429 = σ548 := (funext (fun k => funext (fun j => hfσ548 k j not_false))).symm
                subst hsσ548
                rcases hpr549 with ⟨rfl, hpr549⟩ | ⟨rfl, hpr549⟩
                · skip
                  refine dk_if_eq (tgt := 361) (pc' := 246) hE dX11_next_243 (by decide) rfl (fun hc551 => absurd hc551 (by decide)) (fun hc551 => ?_)
                  refine dk_aload_n (pc' := 247) hE dX11_next_246 rfl rfl rfl ?_
                  refine dk_iconst (pc' := 248) hE dX11_next_247 (by decide) rfl ?_
                  refine pf_11_9 (pc' := 251) hE fl_X11_240 dX11_next_248 is_141 (by omega) rfl (fun σ552 eσ552 => ?_)
                  refine dk_aload_n (pc' := 252) hE dX11_next_251 rfl rfl rfl ?_
                  refine dk_aload_n (pc' := 253) hE dX11_next_252 rfl rfl rfl ?_
                  refine gf_11_6 (pc' := 256) hE fl_X11_215 dX11_next_253 is_141 rfl (fun v553 hv553 htv553 hbv553 => ?_)
                  have hq553 : v3 = v553 := (show v553 = v3 by rw [hv553, eσ552, dk_up_n (show ¬ (141 = 141 ∧ 6 = 9) by omega), hv430]).symm
                  subst hq553
                  clear htv553 hbv553
                  refine pf_11_7 (pc' := 259) hE fl_X11_212 dX11_next_256 is_141 (by omega) rfl (fun σ554 eσ554 => ?_)
                  refine dk_aload_n (pc' := 260) hE dX11_next_259 rfl rfl rfl ?_
                  refine dk_aload_n (pc' := 261) hE dX11_next_260 rfl rfl rfl ?_
                  refine gf_11_7 (pc' := 264) hE fl_X11_212 dX11_next_261 is_141 rfl (fun v555 hv555 htv555 hbv555 => ?_)
                  have hq555 : v3 = v555 := (show v555 = v3 by rw [hv555, eσ554, dk_up_s]).symm
                  subst hq555
                  clear htv555 hbv555
                  have hn558 : tsg σ554 v3 = tsg σ8c v3 := by rw [eσ554, tsg_up (by decide) (by decide), eσ552, tsg_up (by decide) (by decide), eσ429, tsg_up (by decide) (by decide)]
                  refine dk_cV (pc' := 267) (as := [(0, v3)]) hE lk_X11_218 (ct_X11_sign l G hGd v3) dX11_next_264 rfl is_141 rfl (by decide) (Nat.le_of_ble_eq_true rfl) ⟨rfl, (by omega)⟩ rfl (fun r557 σ556 hr557 hor557 => ?_)
                  obtain ⟨v559, rfl, hfσ556, hpr557⟩ := hr557
                  have hsσ556 : σ554 = σ556 := (funext (fun k => funext (fun j => hfσ556 k j not_false))).symm
                  subst hsσ556
                  refine dk_cS (pc' := 270) (as := [(0, v559)]) hE lk_X11_237 (ct_X11_isDigit l G hGd v559) dX11_next_267 rfl rfl (by decide) (Nat.le_of_ble_eq_true rfl) rfl rfl (fun r561 σ560 hr561 hor561 => ?_)
                  obtain ⟨v562, rfl, hfσ560, hpr561⟩ := hr561
                  have hsσ560 : σ554 = σ560 := (funext (fun k => funext (fun j => hfσ560 k j not_false))).symm
                  subst hsσ560
                  rcases hpr561 with ⟨rfl, hpr561⟩ | ⟨rfl, hpr561⟩
                  · skip
                    refine dk_if_eq (tgt := 322) (pc' := 273) hE dX11_next_270 (by decide) rfl (fun hc563 => absurd hc563 (by decide)) (fun hc563 => ?_)
                    refine dk_aload_n (pc' := 274) hE dX11_next_273 rfl rfl rfl ?_
                    refine gf_11_7 (pc' := 277) hE fl_X11_212 dX11_next_274 is_141 rfl (fun v564 hv564 htv564 hbv564 => ?_)
                    have hq564 : v3 = v564 := (show v564 = v3 by rw [hv564, hv555]).symm
                    subst hq564
                    clear htv564 hbv564
                    refine dk_aload_n (pc' := 278) hE dX11_next_277 rfl rfl rfl ?_
                    refine gf_11_6 (pc' := 281) hE fl_X11_215 dX11_next_278 is_141 rfl (fun v565 hv565 htv565 hbv565 => ?_)
                    have hq565 : v3 = v565 := (show v565 = v3 by rw [hv565, eσ554, dk_up_n (show ¬ (141 = 141 ∧ 6 = 7) by omega), hv553]).symm
                    subst hq565
                    clear htv565 hbv565
                    obtain ⟨v566, hv566⟩ : ∃ z : Int, z = v3 - v3 := ⟨_, rfl⟩
                    refine dk_isub (pc' := 282) hE dX11_next_281 hv566.symm (by omega) rfl ?_
                    refine dk_iconst (pc' := 283) hE dX11_next_282 (by decide) rfl ?_
                    refine dk_icmp_ge (tgt := 309) (pc' := 286) hE dX11_next_283 (by decide) rfl (fun hc567 => ?_) (fun hc567 => ?_)
                    · skip
                      refine dk_aload_n (pc' := 310) hE dX11_next_309 rfl rfl rfl ?_
                      refine dk_dup (pc' := 311) hE dX11_next_310 (show (4 : Nat) ≠ 3 by decide) rfl ?_
                      refine gf_11_7 (pc' := 314) hE fl_X11_212 dX11_next_311 is_141 rfl (fun v568 hv568 htv568 hbv568 => ?_)
                      have hq568 : v3 = v568 := (show v568 = v3 by rw [hv568, hv564]).symm
                      subst hq568
                      clear htv568 hbv568
                      refine dk_iconst (pc' := 315) hE dX11_next_314 (by decide) rfl ?_
                      obtain ⟨v569, hv569⟩ : ∃ z : Int, z = v3 + 1 := ⟨_, rfl⟩
                      refine dk_iadd (pc' := 316) hE dX11_next_315 hv569.symm (by omega) rfl ?_
                      refine pf_11_7 (pc' := 319) hE fl_X11_212 dX11_next_316 is_141 (by omega) rfl (fun σ570 eσ570 => ?_)
                      refine dk_goto (tgt := 259) hE dX11_next_319 (by decide) ?_
                      have lp259 : ∀ (N_ : Nat) (σ259c : dkS), (1402 - σ259c 141 7).toNat < N_ → ((∀ k_ j_ : Int, ¬ ((k_ = 141 ∧ j_ = 7) ∨ (k_ = 141 ∧ j_ = 9)) → σ259c k_ j_ = σ570 k_ j_)) → (σ259c 141 6 < σ259c 141 7 ∧ σ259c 141 7 ≤ σ 141 3 ∧ σ 141 7 ≤ σ259c 141 6) → (σ259c 141 3 = σ 141 3 ∧ σ259c 141 4 = σ 141 4) → ((σ259c 141 7 - σ259c 141 6 = 1 ∧ σ259c 141 9 ≤ 9) ∨ (σ259c 141 7 - σ259c 141 6 = 2 ∧ σ259c 141 9 ≤ 99) ∨ (σ259c 141 7 - σ259c 141 6 = 3 ∧ σ259c 141 9 ≤ 999) ∨ 4 ≤ σ259c 141 7 - σ259c 141 6) → dk_PJ E 259 [(4, 141), (0, v426), (9, 0)] [] 190 σ259c := by
                        intro N259
                        induction N259 with
                        | zero => intro  σ259c hm; exact absurd hm (Nat.not_lt_zero _)
                        | succ N259 ih259 =>
                          intro  σ259c hm259 hF259 hd hs6 hn
                          refine dk_aload_n (pc' := 260) hE dX11_next_259 rfl rfl rfl ?_
                          refine dk_aload_n (pc' := 261) hE dX11_next_260 rfl rfl rfl ?_
                          refine gf_11_7 (pc' := 264) hE fl_X11_212 dX11_next_261 is_141 rfl (fun v571 hv571 htv571 hbv571 => ?_)
                          refine dk_cV (pc' := 267) (as := [(0, v571)]) hE lk_X11_218 (ct_X11_sign l G hGd v571) dX11_next_264 rfl is_141 rfl (by decide) (Nat.le_of_ble_eq_true rfl) ⟨rfl, (by omega)⟩ rfl (fun r573 σ572 hr573 hor573 => ?_)
                          obtain ⟨v574, rfl, hfσ572, hpr573⟩ := hr573
                          have hsσ572 : σ259c = σ572 := (funext (fun k => funext (fun j => hfσ572 k j not_false))).symm
                          subst hsσ572
                          refine dk_cS (pc' := 270) (as := [(0, v574)]) hE lk_X11_237 (ct_X11_isDigit l G hGd v574) dX11_next_267 rfl rfl (by decide) (Nat.le_of_ble_eq_true rfl) rfl rfl (fun r576 σ575 hr576 hor576 => ?_)
                          obtain ⟨v577, rfl, hfσ575, hpr576⟩ := hr576
                          have hsσ575 : σ259c = σ575 := (funext (fun k => funext (fun j => hfσ575 k j not_false))).symm
                          subst hsσ575
                          rcases hpr576 with ⟨rfl, hpr576⟩ | ⟨rfl, hpr576⟩
                          · skip
                            refine dk_if_eq (tgt := 322) (pc' := 273) hE dX11_next_270 (by decide) rfl (fun hc578 => absurd hc578 (by decide)) (fun hc578 => ?_)
                            refine dk_aload_n (pc' := 274) hE dX11_next_273 rfl rfl rfl ?_
                            refine gf_11_7 (pc' := 277) hE fl_X11_212 dX11_next_274 is_141 rfl (fun v579 hv579 htv579 hbv579 => ?_)
                            have hq579 : v571 = v579 := (show v579 = v571 by rw [hv579, hv571]).symm
                            subst hq579
                            clear htv579 hbv579
                            refine dk_aload_n (pc' := 278) hE dX11_next_277 rfl rfl rfl ?_
                            refine gf_11_6 (pc' := 281) hE fl_X11_215 dX11_next_278 is_141 rfl (fun v580 hv580 htv580 hbv580 => ?_)
                            have hq580 : v3 = v580 := (show v580 = v3 by rw [hv580, hF259 141 6 (by omega), eσ570, dk_up_n (show ¬ (141 = 141 ∧ 6 = 7) by omega), hv565]).symm
                            subst hq580
                            clear htv580 hbv580
                            obtain ⟨v581, hv581⟩ : ∃ z : Int, z = v571 - v3 := ⟨_, rfl⟩
                            refine dk_isub (pc' := 282) hE dX11_next_281 hv581.symm (by omega) rfl ?_
                            refine dk_iconst (pc' := 283) hE dX11_next_282 (by decide) rfl ?_
                            refine dk_icmp_ge (tgt := 309) (pc' := 286) hE dX11_next_283 (by decide) rfl (fun hc582 => ?_) (fun hc582 => ?_)
                            · skip
                              refine dk_aload_n (pc' := 310) hE dX11_next_309 rfl rfl rfl ?_
                              refine dk_dup (pc' := 311) hE dX11_next_310 (show (4 : Nat) ≠ 3 by decide) rfl ?_
                              refine gf_11_7 (pc' := 314) hE fl_X11_212 dX11_next_311 is_141 rfl (fun v583 hv583 htv583 hbv583 => ?_)
                              have hq583 : v571 = v583 := (show v583 = v571 by rw [hv583, hv579]).symm
                              subst hq583
                              clear htv583 hbv583
                              refine dk_iconst (pc' := 315) hE dX11_next_314 (by decide) rfl ?_
                              obtain ⟨v584, hv584⟩ : ∃ z : Int, z = v571 + 1 := ⟨_, rfl⟩
                              refine dk_iadd (pc' := 316) hE dX11_next_315 hv584.symm (by omega) rfl ?_
                              refine pf_11_7 (pc' := 319) hE fl_X11_212 dX11_next_316 is_141 (by omega) rfl (fun σ585 eσ585 => ?_)
                              refine dk_goto (tgt := 259) hE dX11_next_319 (by decide) ?_
                              have hz585_141_6 := (show σ585 141 6 = _ by rw [eσ585, dk_up_n (show ¬ (141 = 141 ∧ 6 = 7) by omega)])
                              have hz586_141_7 : σ585 141 7 = v584 := by rw [eσ585, dk_up_s]
                              have hz587_141_3 := (show σ585 141 3 = _ by rw [eσ585, dk_up_n (show ¬ (141 = 141 ∧ 3 = 7) by omega)])
                              have hz588_141_4 := (show σ585 141 4 = _ by rw [eσ585, dk_up_n (show ¬ (141 = 141 ∧ 4 = 7) by omega)])
                              have hz589_141_9 := (show σ585 141 9 = _ by rw [eσ585, dk_up_n (show ¬ (141 = 141 ∧ 9 = 7) by omega)])
                              exact ih259 σ585 (by omega) (fun k_ j_ h_ => by rw [eσ585, dk_up_n (show ¬ (k_ = 141 ∧ j_ = 7) from fun q_ => h_ (Or.inl (q_))), hF259 k_ j_ (fun w_ => h_ (w_.elim (fun x0_ => Or.inl (x0_)) (fun y0_ => Or.inr (y0_))))]) (by omega) (by omega) (by omega)
                            · skip
                              refine dk_aload_n (pc' := 287) hE dX11_next_286 rfl rfl rfl ?_
                              refine dk_bipush (pc' := 289) hE dX11_next_287 (by decide) rfl ?_
                              refine dk_aload_n (pc' := 290) hE dX11_next_289 rfl rfl rfl ?_
                              refine gf_11_9 (pc' := 293) hE fl_X11_240 dX11_next_290 is_141 rfl (fun v591 hv591 htv591 hbv591 => ?_)
                              obtain ⟨v592, hv592⟩ : ∃ z : Int, z = 10 * v591 := ⟨_, rfl⟩
                              refine dk_imul (pc' := 294) hE dX11_next_293 hv592.symm (by omega) rfl ?_
                              refine dk_aload_n (pc' := 295) hE dX11_next_294 rfl rfl rfl ?_
                              refine dk_aload_n (pc' := 296) hE dX11_next_295 rfl rfl rfl ?_
                              refine gf_11_7 (pc' := 299) hE fl_X11_212 dX11_next_296 is_141 rfl (fun v593 hv593 htv593 hbv593 => ?_)
                              have hq593 : v571 = v593 := (show v593 = v571 by rw [hv593, hv579]).symm
                              subst hq593
                              clear htv593 hbv593
                              refine dk_cV (pc' := 302) (as := [(0, v571)]) hE lk_X11_218 (ct_X11_sign l G hGd v571) dX11_next_299 rfl is_141 rfl (by decide) (Nat.le_of_ble_eq_true rfl) ⟨rfl, (by omega)⟩ rfl (fun r595 σ594 hr595 hor595 => ?_)
                              obtain ⟨v596, rfl, hfσ594, hpr595⟩ := hr595
                              have hsσ594 : σ259c = σ594 := (funext (fun k => funext (fun j => hfσ594 k j not_false))).symm
                              subst hsσ594
                              obtain ⟨v597, hv597⟩ : ∃ z : Int, z = v592 + v596 := ⟨_, rfl⟩
                              refine dk_iadd (pc' := 303) hE dX11_next_302 hv597.symm (by omega) rfl ?_
                              refine dk_bipush (pc' := 305) hE dX11_next_303 (by decide) rfl ?_
                              obtain ⟨v598, hv598⟩ : ∃ z : Int, z = v597 - 48 := ⟨_, rfl⟩
                              refine dk_isub (pc' := 306) hE dX11_next_305 hv598.symm (by omega) rfl ?_
                              refine pf_11_9 (pc' := 309) hE fl_X11_240 dX11_next_306 is_141 (by omega) rfl (fun σ599 eσ599 => ?_)
                              refine dk_aload_n (pc' := 310) hE dX11_next_309 rfl rfl rfl ?_
                              refine dk_dup (pc' := 311) hE dX11_next_310 (show (4 : Nat) ≠ 3 by decide) rfl ?_
                              refine gf_11_7 (pc' := 314) hE fl_X11_212 dX11_next_311 is_141 rfl (fun v600 hv600 htv600 hbv600 => ?_)
                              have hq600 : v571 = v600 := (show v600 = v571 by rw [hv600, eσ599, dk_up_n (show ¬ (141 = 141 ∧ 7 = 9) by omega), hv593]).symm
                              subst hq600
                              clear htv600 hbv600
                              refine dk_iconst (pc' := 315) hE dX11_next_314 (by decide) rfl ?_
                              obtain ⟨v601, hv601⟩ : ∃ z : Int, z = v571 + 1 := ⟨_, rfl⟩
                              refine dk_iadd (pc' := 316) hE dX11_next_315 hv601.symm (by omega) rfl ?_
                              refine pf_11_7 (pc' := 319) hE fl_X11_212 dX11_next_316 is_141 (by omega) rfl (fun σ602 eσ602 => ?_)
                              refine dk_goto (tgt := 259) hE dX11_next_319 (by decide) ?_
                              have hz602_141_6 := (show σ602 141 6 = _ by rw [eσ602, dk_up_n (show ¬ (141 = 141 ∧ 6 = 7) by omega), eσ599, dk_up_n (show ¬ (141 = 141 ∧ 6 = 9) by omega)])
                              have hz603_141_7 : σ602 141 7 = v601 := by rw [eσ602, dk_up_s]
                              have hz604_141_3 := (show σ602 141 3 = _ by rw [eσ602, dk_up_n (show ¬ (141 = 141 ∧ 3 = 7) by omega), eσ599, dk_up_n (show ¬ (141 = 141 ∧ 3 = 9) by omega)])
                              have hz605_141_4 := (show σ602 141 4 = _ by rw [eσ602, dk_up_n (show ¬ (141 = 141 ∧ 4 = 7) by omega), eσ599, dk_up_n (show ¬ (141 = 141 ∧ 4 = 9) by omega)])
                              have hz606_141_9 : σ602 141 9 = v598 := by rw [eσ602, dk_up_n (show ¬ (141 = 141 ∧ 9 = 7) by omega), eσ599, dk_up_s]
                              exact ih259 σ602 (by omega) (fun k_ j_ h_ => by rw [eσ602, dk_up_n (show ¬ (k_ = 141 ∧ j_ = 7) from fun q_ => h_ (Or.inl (q_))), eσ599, dk_up_n (show ¬ (k_ = 141 ∧ j_ = 9) from fun q_ => h_ (Or.inr (q_))), hF259 k_ j_ (fun w_ => h_ (w_.elim (fun x0_ => Or.inl (x0_)) (fun y0_ => Or.inr (y0_))))]) (by omega) (by omega) (by omega)
                          · skip
                            refine dk_if_eq (tgt := 322) (pc' := 273) hE dX11_next_270 (by decide) rfl (fun hc608 => ?_) (fun hc608 => absurd hc608 (by decide))
                            refine dk_aload_n (pc' := 323) hE dX11_next_322 rfl rfl rfl ?_
                            refine dk_aload_n (pc' := 324) hE dX11_next_323 rfl rfl rfl ?_
                            refine gf_11_7 (pc' := 327) hE fl_X11_212 dX11_next_324 is_141 rfl (fun v609 hv609 htv609 hbv609 => ?_)
                            have hq609 : v571 = v609 := (show v609 = v571 by rw [hv609, hv571]).symm
                            subst hq609
                            clear htv609 hbv609
                            refine dk_aload_n (pc' := 328) hE dX11_next_327 rfl rfl rfl ?_
                            refine gf_11_6 (pc' := 331) hE fl_X11_215 dX11_next_328 is_141 rfl (fun v610 hv610 htv610 hbv610 => ?_)
                            have hq610 : v3 = v610 := (show v610 = v3 by rw [hv610, hF259 141 6 (by omega), eσ570, dk_up_n (show ¬ (141 = 141 ∧ 6 = 7) by omega), hv565]).symm
                            subst hq610
                            clear htv610 hbv610
                            obtain ⟨v611, hv611⟩ : ∃ z : Int, z = v571 - v3 := ⟨_, rfl⟩
                            refine dk_isub (pc' := 332) hE dX11_next_331 hv611.symm (by omega) rfl ?_
                            refine dk_iconst (pc' := 333) hE dX11_next_332 (by decide) rfl ?_
                            refine dk_icmp_gt (tgt := 350) (pc' := 336) hE dX11_next_333 (by decide) rfl (fun hc612 => ?_) (fun hc612 => ?_)
                            · skip
                              refine dk_iconst (pc' := 351) hE dX11_next_350 (by decide) rfl ?_
                              refine dk_goto (tgt := 355) hE dX11_next_351 (by decide) ?_
                              refine pf_11_8 (pc' := 358) hE fl_X11_222 dX11_next_355 is_141 (by omega) rfl (fun σ613 eσ613 => ?_)
                              refine dk_goto (tgt := 377) hE dX11_next_358 (by decide) ?_
                              have hz614 : σ613 141 3 = v4 := by rw [eσ613, dk_up_n (show ¬ (141 = 141 ∧ 3 = 8) by omega), hF259 141 3 (by omega), eσ570, dk_up_n (show ¬ (141 = 141 ∧ 3 = 7) by omega), eσ554, dk_up_n (show ¬ (141 = 141 ∧ 3 = 7) by omega), eσ552, dk_up_n (show ¬ (141 = 141 ∧ 3 = 9) by omega), hv431]
                              have hz615 : σ613 141 4 = σ 141 4 := by rw [eσ613, dk_up_n (show ¬ (141 = 141 ∧ 4 = 8) by omega), hF259 141 4 (by omega), eσ570, dk_up_n (show ¬ (141 = 141 ∧ 4 = 7) by omega), eσ554, dk_up_n (show ¬ (141 = 141 ∧ 4 = 7) by omega), eσ552, dk_up_n (show ¬ (141 = 141 ∧ 4 = 9) by omega), eσ429, dk_up_n (show ¬ (141 = 141 ∧ 4 = 7) by omega), hF8 141 4 (by omega), eσ2, dk_up_n (show ¬ (141 = 141 ∧ 4 = 6) by omega)]
                              have hz616 : σ613 141 6 = v3 := by rw [eσ613, dk_up_n (show ¬ (141 = 141 ∧ 6 = 8) by omega), hv610]
                              have hz617 : σ613 141 7 = v571 := by rw [eσ613, dk_up_n (show ¬ (141 = 141 ∧ 7 = 8) by omega), hv609]
                              have hz618 : σ613 141 8 = 1 := by rw [eσ613, dk_up_s]
                              exact dk_vret (st := []) hE hR dX11_next_377 ⟨rfl, (fun k_ j_ h_ => by rw [eσ613, dk_up_n (show ¬ (k_ = 141 ∧ j_ = 8) from fun q_ => h_ (Or.inr (Or.inr (Or.inl (q_))))), hF259 k_ j_ (fun w_ => h_ (w_.elim (fun x0_ => Or.inr (Or.inl (x0_))) (fun y0_ => Or.inr (Or.inr (Or.inr (Or.inl (y0_))))))), eσ570, dk_up_n (show ¬ (k_ = 141 ∧ j_ = 7) from fun q_ => h_ (Or.inr (Or.inl (q_)))), eσ554, dk_up_n (show ¬ (k_ = 141 ∧ j_ = 7) from fun q_ => h_ (Or.inr (Or.inl (q_)))), eσ552, dk_up_n (show ¬ (k_ = 141 ∧ j_ = 9) from fun q_ => h_ (Or.inr (Or.inr (Or.inr (Or.inl (q_)))))), eσ429, dk_up_n (show ¬ (k_ = 141 ∧ j_ = 7) from fun q_ => h_ (Or.inr (Or.inl (q_)))), hF8 k_ j_ (fun w_ => h_ (Or.inl (w_))), eσ2, dk_up_n (show ¬ (k_ = 141 ∧ j_ = 6) from fun q_ => h_ (Or.inl (q_)))]), ⟨NY_of (by omega) (by omega) (by omega), by omega⟩⟩
                            · skip
                              refine dk_aload_n (pc' := 337) hE dX11_next_336 rfl rfl rfl ?_
                              refine dk_aload_n (pc' := 338) hE dX11_next_337 rfl rfl rfl ?_
                              refine gf_11_7 (pc' := 341) hE fl_X11_212 dX11_next_338 is_141 rfl (fun v619 hv619 htv619 hbv619 => ?_)
                              have hq619 : v571 = v619 := (show v619 = v571 by rw [hv619, hv609]).symm
                              subst hq619
                              clear htv619 hbv619
                              refine dk_cV (pc' := 344) (as := [(0, v571)]) hE lk_X11_218 (ct_X11_sign l G hGd v571) dX11_next_341 rfl is_141 rfl (by decide) (Nat.le_of_ble_eq_true rfl) ⟨rfl, (by omega)⟩ rfl (fun r621 σ620 hr621 hor621 => ?_)
                              obtain ⟨v622, rfl, hfσ620, hpr621⟩ := hr621
                              have hsσ620 : σ259c = σ620 := (funext (fun k => funext (fun j => hfσ620 k j not_false))).symm
                              subst hsσ620
                              refine dk_cS (pc' := 347) (as := [(0, v622)]) hE lk_X11_225 (ct_X11_isLetter l G hGd v622) dX11_next_344 rfl rfl (by decide) (Nat.le_of_ble_eq_true rfl) rfl rfl (fun r624 σ623 hr624 hor624 => ?_)
                              obtain ⟨v625, rfl, hfσ623, hpr624⟩ := hr624
                              have hsσ623 : σ259c = σ623 := (funext (fun k => funext (fun j => hfσ623 k j not_false))).symm
                              subst hsσ623
                              rcases hpr624 with ⟨rfl, hpr624⟩ | ⟨rfl, hpr624⟩
                              · skip
                                refine dk_if_eq (tgt := 354) (pc' := 350) hE dX11_next_347 (by decide) rfl (fun hc626 => absurd hc626 (by decide)) (fun hc626 => ?_)
                                refine dk_iconst (pc' := 351) hE dX11_next_350 (by decide) rfl ?_
                                refine dk_goto (tgt := 355) hE dX11_next_351 (by decide) ?_
                                refine pf_11_8 (pc' := 358) hE fl_X11_222 dX11_next_355 is_141 (by omega) rfl (fun σ627 eσ627 => ?_)
                                refine dk_goto (tgt := 377) hE dX11_next_358 (by decide) ?_
                                have hz628 : σ627 141 3 = v4 := by rw [eσ627, dk_up_n (show ¬ (141 = 141 ∧ 3 = 8) by omega), hF259 141 3 (by omega), eσ570, dk_up_n (show ¬ (141 = 141 ∧ 3 = 7) by omega), eσ554, dk_up_n (show ¬ (141 = 141 ∧ 3 = 7) by omega), eσ552, dk_up_n (show ¬ (141 = 141 ∧ 3 = 9) by omega), hv431]
                                have hz629 : σ627 141 4 = σ 141 4 := by rw [eσ627, dk_up_n (show ¬ (141 = 141 ∧ 4 = 8) by omega), hF259 141 4 (by omega), eσ570, dk_up_n (show ¬ (141 = 141 ∧ 4 = 7) by omega), eσ554, dk_up_n (show ¬ (141 = 141 ∧ 4 = 7) by omega), eσ552, dk_up_n (show ¬ (141 = 141 ∧ 4 = 9) by omega), eσ429, dk_up_n (show ¬ (141 = 141 ∧ 4 = 7) by omega), hF8 141 4 (by omega), eσ2, dk_up_n (show ¬ (141 = 141 ∧ 4 = 6) by omega)]
                                have hz630 : σ627 141 6 = v3 := by rw [eσ627, dk_up_n (show ¬ (141 = 141 ∧ 6 = 8) by omega), hv610]
                                have hz631 : σ627 141 7 = v571 := by rw [eσ627, dk_up_n (show ¬ (141 = 141 ∧ 7 = 8) by omega), hv619]
                                have hz632 : σ627 141 8 = 1 := by rw [eσ627, dk_up_s]
                                exact dk_vret (st := []) hE hR dX11_next_377 ⟨rfl, (fun k_ j_ h_ => by rw [eσ627, dk_up_n (show ¬ (k_ = 141 ∧ j_ = 8) from fun q_ => h_ (Or.inr (Or.inr (Or.inl (q_))))), hF259 k_ j_ (fun w_ => h_ (w_.elim (fun x0_ => Or.inr (Or.inl (x0_))) (fun y0_ => Or.inr (Or.inr (Or.inr (Or.inl (y0_))))))), eσ570, dk_up_n (show ¬ (k_ = 141 ∧ j_ = 7) from fun q_ => h_ (Or.inr (Or.inl (q_)))), eσ554, dk_up_n (show ¬ (k_ = 141 ∧ j_ = 7) from fun q_ => h_ (Or.inr (Or.inl (q_)))), eσ552, dk_up_n (show ¬ (k_ = 141 ∧ j_ = 9) from fun q_ => h_ (Or.inr (Or.inr (Or.inr (Or.inl (q_)))))), eσ429, dk_up_n (show ¬ (k_ = 141 ∧ j_ = 7) from fun q_ => h_ (Or.inr (Or.inl (q_)))), hF8 k_ j_ (fun w_ => h_ (Or.inl (w_))), eσ2, dk_up_n (show ¬ (k_ = 141 ∧ j_ = 6) from fun q_ => h_ (Or.inl (q_)))]), ⟨NY_of (by omega) (by omega) (by omega), by omega⟩⟩
                              · skip
                                refine dk_if_eq (tgt := 354) (pc' := 350) hE dX11_next_347 (by decide) rfl (fun hc633 => ?_) (fun hc633 => absurd hc633 (by decide))
                                refine dk_iconst (pc' := 355) hE dX11_next_354 (by decide) rfl ?_
                                refine pf_11_8 (pc' := 358) hE fl_X11_222 dX11_next_355 is_141 (by omega) rfl (fun σ634 eσ634 => ?_)
                                refine dk_goto (tgt := 377) hE dX11_next_358 (by decide) ?_
                                have hz635 : σ634 141 3 = v4 := by rw [eσ634, dk_up_n (show ¬ (141 = 141 ∧ 3 = 8) by omega), hF259 141 3 (by omega), eσ570, dk_up_n (show ¬ (141 = 141 ∧ 3 = 7) by omega), eσ554, dk_up_n (show ¬ (141 = 141 ∧ 3 = 7) by omega), eσ552, dk_up_n (show ¬ (141 = 141 ∧ 3 = 9) by omega), hv431]
                                have hz636 : σ634 141 4 = σ 141 4 := by rw [eσ634, dk_up_n (show ¬ (141 = 141 ∧ 4 = 8) by omega), hF259 141 4 (by omega), eσ570, dk_up_n (show ¬ (141 = 141 ∧ 4 = 7) by omega), eσ554, dk_up_n (show ¬ (141 = 141 ∧ 4 = 7) by omega), eσ552, dk_up_n (show ¬ (141 = 141 ∧ 4 = 9) by omega), eσ429, dk_up_n (show ¬ (141 = 141 ∧ 4 = 7) by omega), hF8 141 4 (by omega), eσ2, dk_up_n (show ¬ (141 = 141 ∧ 4 = 6) by omega)]
                                have hz637 : σ634 141 6 = v3 := by rw [eσ634, dk_up_n (show ¬ (141 = 141 ∧ 6 = 8) by omega), hv610]
                                have hz638 : σ634 141 7 = v571 := by rw [eσ634, dk_up_n (show ¬ (141 = 141 ∧ 7 = 8) by omega), hv619]
                                have hz639 : σ634 141 8 = 4 := by rw [eσ634, dk_up_s]
                                exact dk_vret (st := []) hE hR dX11_next_377 ⟨rfl, (fun k_ j_ h_ => by rw [eσ634, dk_up_n (show ¬ (k_ = 141 ∧ j_ = 8) from fun q_ => h_ (Or.inr (Or.inr (Or.inl (q_))))), hF259 k_ j_ (fun w_ => h_ (w_.elim (fun x0_ => Or.inr (Or.inl (x0_))) (fun y0_ => Or.inr (Or.inr (Or.inr (Or.inl (y0_))))))), eσ570, dk_up_n (show ¬ (k_ = 141 ∧ j_ = 7) from fun q_ => h_ (Or.inr (Or.inl (q_)))), eσ554, dk_up_n (show ¬ (k_ = 141 ∧ j_ = 7) from fun q_ => h_ (Or.inr (Or.inl (q_)))), eσ552, dk_up_n (show ¬ (k_ = 141 ∧ j_ = 9) from fun q_ => h_ (Or.inr (Or.inr (Or.inr (Or.inl (q_)))))), eσ429, dk_up_n (show ¬ (k_ = 141 ∧ j_ = 7) from fun q_ => h_ (Or.inr (Or.inl (q_)))), hF8 k_ j_ (fun w_ => h_ (Or.inl (w_))), eσ2, dk_up_n (show ¬ (k_ = 141 ∧ j_ = 6) from fun q_ => h_ (Or.inl (q_)))]), ⟨NY_of (by omega) (by omega) (by omega), by omega⟩⟩
                      have hz640 : σ570 141 6 = v3 := by rw [eσ570, dk_up_n (show ¬ (141 = 141 ∧ 6 = 7) by omega), hv565]
                      have hz641 : σ570 141 7 = v569 := by rw [eσ570, dk_up_s]
                      have hz642 : σ570 141 7 = v569 := by rw [eσ570, dk_up_s]
                      have hz643 : σ570 141 6 = v3 := by rw [eσ570, dk_up_n (show ¬ (141 = 141 ∧ 6 = 7) by omega), hv565]
                      have hz644 : σ570 141 3 = v4 := by rw [eσ570, dk_up_n (show ¬ (141 = 141 ∧ 3 = 7) by omega), eσ554, dk_up_n (show ¬ (141 = 141 ∧ 3 = 7) by omega), eσ552, dk_up_n (show ¬ (141 = 141 ∧ 3 = 9) by omega), hv431]
                      have hz645 : σ570 141 4 = σ 141 4 := by rw [eσ570, dk_up_n (show ¬ (141 = 141 ∧ 4 = 7) by omega), eσ554, dk_up_n (show ¬ (141 = 141 ∧ 4 = 7) by omega), eσ552, dk_up_n (show ¬ (141 = 141 ∧ 4 = 9) by omega), eσ429, dk_up_n (show ¬ (141 = 141 ∧ 4 = 7) by omega), hF8 141 4 (by omega), eσ2, dk_up_n (show ¬ (141 = 141 ∧ 4 = 6) by omega)]
                      have hz646 : σ570 141 7 = v569 := by rw [eσ570, dk_up_s]
                      have hz647 : σ570 141 6 = v3 := by rw [eσ570, dk_up_n (show ¬ (141 = 141 ∧ 6 = 7) by omega), hv565]
                      have hz648 : σ570 141 9 = 0 := by rw [eσ570, dk_up_n (show ¬ (141 = 141 ∧ 9 = 7) by omega), eσ554, dk_up_n (show ¬ (141 = 141 ∧ 9 = 7) by omega), eσ552, dk_up_s]
                      have hz649 : σ570 141 7 = v569 := by rw [eσ570, dk_up_s]
                      have hz650 : σ570 141 6 = v3 := by rw [eσ570, dk_up_n (show ¬ (141 = 141 ∧ 6 = 7) by omega), hv565]
                      have hz651 : σ570 141 9 = 0 := by rw [eσ570, dk_up_n (show ¬ (141 = 141 ∧ 9 = 7) by omega), eσ554, dk_up_n (show ¬ (141 = 141 ∧ 9 = 7) by omega), eσ552, dk_up_s]
                      have hz652 : σ570 141 7 = v569 := by rw [eσ570, dk_up_s]
                      have hz653 : σ570 141 6 = v3 := by rw [eσ570, dk_up_n (show ¬ (141 = 141 ∧ 6 = 7) by omega), hv565]
                      have hz654 : σ570 141 9 = 0 := by rw [eσ570, dk_up_n (show ¬ (141 = 141 ∧ 9 = 7) by omega), eσ554, dk_up_n (show ¬ (141 = 141 ∧ 9 = 7) by omega), eσ552, dk_up_s]
                      have hz655 : σ570 141 7 = v569 := by rw [eσ570, dk_up_s]
                      have hz656 : σ570 141 6 = v3 := by rw [eσ570, dk_up_n (show ¬ (141 = 141 ∧ 6 = 7) by omega), hv565]
                      have hz657 : σ570 141 7 = v569 := by rw [eσ570, dk_up_s]
                      have hz658_141_7 : σ570 141 7 = v569 := by rw [eσ570, dk_up_s]
                      have hz661_141_9 : σ570 141 9 = 0 := by rw [eσ570, dk_up_n (show ¬ (141 = 141 ∧ 9 = 7) by omega), eσ554, dk_up_n (show ¬ (141 = 141 ∧ 9 = 7) by omega), eσ552, dk_up_s]
                      exact lp259 _ σ570 (Nat.lt_succ_self _) (fun k_ j_ h_ => rfl) (by omega) (by omega) (by omega)
                    · skip
                      refine dk_aload_n (pc' := 287) hE dX11_next_286 rfl rfl rfl ?_
                      refine dk_bipush (pc' := 289) hE dX11_next_287 (by decide) rfl ?_
                      refine dk_aload_n (pc' := 290) hE dX11_next_289 rfl rfl rfl ?_
                      refine gf_11_9 (pc' := 293) hE fl_X11_240 dX11_next_290 is_141 rfl (fun v663 hv663 htv663 hbv663 => ?_)
                      have hq663 : 0 = v663 := (show v663 = 0 by rw [hv663, eσ554, dk_up_n (show ¬ (141 = 141 ∧ 9 = 7) by omega), eσ552, dk_up_s]).symm
                      subst hq663
                      clear htv663 hbv663
                      refine dk_imul (pc' := 294) hE dX11_next_293 (z := 0) (by decide) (by decide) rfl ?_
                      refine dk_aload_n (pc' := 295) hE dX11_next_294 rfl rfl rfl ?_
                      refine dk_aload_n (pc' := 296) hE dX11_next_295 rfl rfl rfl ?_
                      refine gf_11_7 (pc' := 299) hE fl_X11_212 dX11_next_296 is_141 rfl (fun v664 hv664 htv664 hbv664 => ?_)
                      have hq664 : v3 = v664 := (show v664 = v3 by rw [hv664, hv564]).symm
                      subst hq664
                      clear htv664 hbv664
                      refine dk_cV (pc' := 302) (as := [(0, v3)]) hE lk_X11_218 (ct_X11_sign l G hGd v3) dX11_next_299 rfl is_141 rfl (by decide) (Nat.le_of_ble_eq_true rfl) ⟨rfl, (by omega)⟩ rfl (fun r666 σ665 hr666 hor666 => ?_)
                      obtain ⟨v667, rfl, hfσ665, hpr666⟩ := hr666
                      have hsσ665 : σ554 = σ665 := (funext (fun k => funext (fun j => hfσ665 k j not_false))).symm
                      subst hsσ665
                      obtain ⟨v668, hv668⟩ : ∃ z : Int, z = 0 + v667 := ⟨_, rfl⟩
                      refine dk_iadd (pc' := 303) hE dX11_next_302 hv668.symm (by omega) rfl ?_
                      refine dk_bipush (pc' := 305) hE dX11_next_303 (by decide) rfl ?_
                      obtain ⟨v669, hv669⟩ : ∃ z : Int, z = v668 - 48 := ⟨_, rfl⟩
                      refine dk_isub (pc' := 306) hE dX11_next_305 hv669.symm (by omega) rfl ?_
                      refine pf_11_9 (pc' := 309) hE fl_X11_240 dX11_next_306 is_141 (by omega) rfl (fun σ670 eσ670 => ?_)
                      refine dk_aload_n (pc' := 310) hE dX11_next_309 rfl rfl rfl ?_
                      refine dk_dup (pc' := 311) hE dX11_next_310 (show (4 : Nat) ≠ 3 by decide) rfl ?_
                      refine gf_11_7 (pc' := 314) hE fl_X11_212 dX11_next_311 is_141 rfl (fun v671 hv671 htv671 hbv671 => ?_)
                      have hq671 : v3 = v671 := (show v671 = v3 by rw [hv671, eσ670, dk_up_n (show ¬ (141 = 141 ∧ 7 = 9) by omega), hv664]).symm
                      subst hq671
                      clear htv671 hbv671
                      refine dk_iconst (pc' := 315) hE dX11_next_314 (by decide) rfl ?_
                      obtain ⟨v672, hv672⟩ : ∃ z : Int, z = v3 + 1 := ⟨_, rfl⟩
                      refine dk_iadd (pc' := 316) hE dX11_next_315 hv672.symm (by omega) rfl ?_
                      refine pf_11_7 (pc' := 319) hE fl_X11_212 dX11_next_316 is_141 (by omega) rfl (fun σ673 eσ673 => ?_)
                      refine dk_goto (tgt := 259) hE dX11_next_319 (by decide) ?_
                      have lp259 : ∀ (N_ : Nat) (σ259c : dkS), (1402 - σ259c 141 7).toNat < N_ → ((∀ k_ j_ : Int, ¬ ((k_ = 141 ∧ j_ = 7) ∨ (k_ = 141 ∧ j_ = 9)) → σ259c k_ j_ = σ673 k_ j_)) → (σ259c 141 6 < σ259c 141 7 ∧ σ259c 141 7 ≤ σ 141 3 ∧ σ 141 7 ≤ σ259c 141 6) → (σ259c 141 3 = σ 141 3 ∧ σ259c 141 4 = σ 141 4) → ((σ259c 141 7 - σ259c 141 6 = 1 ∧ σ259c 141 9 ≤ 9) ∨ (σ259c 141 7 - σ259c 141 6 = 2 ∧ σ259c 141 9 ≤ 99) ∨ (σ259c 141 7 - σ259c 141 6 = 3 ∧ σ259c 141 9 ≤ 999) ∨ 4 ≤ σ259c 141 7 - σ259c 141 6) → dk_PJ E 259 [(4, 141), (0, v426), (9, 0)] [] 190 σ259c := by
                        intro N259
                        induction N259 with
                        | zero => intro  σ259c hm; exact absurd hm (Nat.not_lt_zero _)
                        | succ N259 ih259 =>
                          intro  σ259c hm259 hF259 hd hs6 hn
                          refine dk_aload_n (pc' := 260) hE dX11_next_259 rfl rfl rfl ?_
                          refine dk_aload_n (pc' := 261) hE dX11_next_260 rfl rfl rfl ?_
                          refine gf_11_7 (pc' := 264) hE fl_X11_212 dX11_next_261 is_141 rfl (fun v674 hv674 htv674 hbv674 => ?_)
                          refine dk_cV (pc' := 267) (as := [(0, v674)]) hE lk_X11_218 (ct_X11_sign l G hGd v674) dX11_next_264 rfl is_141 rfl (by decide) (Nat.le_of_ble_eq_true rfl) ⟨rfl, (by omega)⟩ rfl (fun r676 σ675 hr676 hor676 => ?_)
                          obtain ⟨v677, rfl, hfσ675, hpr676⟩ := hr676
                          have hsσ675 : σ259c = σ675 := (funext (fun k => funext (fun j => hfσ675 k j not_false))).symm
                          subst hsσ675
                          refine dk_cS (pc' := 270) (as := [(0, v677)]) hE lk_X11_237 (ct_X11_isDigit l G hGd v677) dX11_next_267 rfl rfl (by decide) (Nat.le_of_ble_eq_true rfl) rfl rfl (fun r679 σ678 hr679 hor679 => ?_)
                          obtain ⟨v680, rfl, hfσ678, hpr679⟩ := hr679
                          have hsσ678 : σ259c = σ678 := (funext (fun k => funext (fun j => hfσ678 k j not_false))).symm
                          subst hsσ678
                          rcases hpr679 with ⟨rfl, hpr679⟩ | ⟨rfl, hpr679⟩
                          · skip
                            refine dk_if_eq (tgt := 322) (pc' := 273) hE dX11_next_270 (by decide) rfl (fun hc681 => absurd hc681 (by decide)) (fun hc681 => ?_)
                            refine dk_aload_n (pc' := 274) hE dX11_next_273 rfl rfl rfl ?_
                            refine gf_11_7 (pc' := 277) hE fl_X11_212 dX11_next_274 is_141 rfl (fun v682 hv682 htv682 hbv682 => ?_)
                            have hq682 : v674 = v682 := (show v682 = v674 by rw [hv682, hv674]).symm
                            subst hq682
                            clear htv682 hbv682
                            refine dk_aload_n (pc' := 278) hE dX11_next_277 rfl rfl rfl ?_
                            refine gf_11_6 (pc' := 281) hE fl_X11_215 dX11_next_278 is_141 rfl (fun v683 hv683 htv683 hbv683 => ?_)
                            have hq683 : v3 = v683 := (show v683 = v3 by rw [hv683, hF259 141 6 (by omega), eσ673, dk_up_n (show ¬ (141 = 141 ∧ 6 = 7) by omega), eσ670, dk_up_n (show ¬ (141 = 141 ∧ 6 = 9) by omega), hv565]).symm
                            subst hq683
                            clear htv683 hbv683
                            obtain ⟨v684, hv684⟩ : ∃ z : Int, z = v674 - v3 := ⟨_, rfl⟩
                            refine dk_isub (pc' := 282) hE dX11_next_281 hv684.symm (by omega) rfl ?_
                            refine dk_iconst (pc' := 283) hE dX11_next_282 (by decide) rfl ?_
                            refine dk_icmp_ge (tgt := 309) (pc' := 286) hE dX11_next_283 (by decide) rfl (fun hc685 => ?_) (fun hc685 => ?_)
                            · skip
                              refine dk_aload_n (pc' := 310) hE dX11_next_309 rfl rfl rfl ?_
                              refine dk_dup (pc' := 311) hE dX11_next_310 (show (4 : Nat) ≠ 3 by decide) rfl ?_
                              refine gf_11_7 (pc' := 314) hE fl_X11_212 dX11_next_311 is_141 rfl (fun v686 hv686 htv686 hbv686 => ?_)
                              have hq686 : v674 = v686 := (show v686 = v674 by rw [hv686, hv682]).symm
                              subst hq686
                              clear htv686 hbv686
                              refine dk_iconst (pc' := 315) hE dX11_next_314 (by decide) rfl ?_
                              obtain ⟨v687, hv687⟩ : ∃ z : Int, z = v674 + 1 := ⟨_, rfl⟩
                              refine dk_iadd (pc' := 316) hE dX11_next_315 hv687.symm (by omega) rfl ?_
                              refine pf_11_7 (pc' := 319) hE fl_X11_212 dX11_next_316 is_141 (by omega) rfl (fun σ688 eσ688 => ?_)
                              refine dk_goto (tgt := 259) hE dX11_next_319 (by decide) ?_
                              have hz688_141_6 := (show σ688 141 6 = _ by rw [eσ688, dk_up_n (show ¬ (141 = 141 ∧ 6 = 7) by omega)])
                              have hz689_141_7 : σ688 141 7 = v687 := by rw [eσ688, dk_up_s]
                              have hz690_141_3 := (show σ688 141 3 = _ by rw [eσ688, dk_up_n (show ¬ (141 = 141 ∧ 3 = 7) by omega)])
                              have hz691_141_4 := (show σ688 141 4 = _ by rw [eσ688, dk_up_n (show ¬ (141 = 141 ∧ 4 = 7) by omega)])
                              have hz692_141_9 := (show σ688 141 9 = _ by rw [eσ688, dk_up_n (show ¬ (141 = 141 ∧ 9 = 7) by omega)])
                              exact ih259 σ688 (by omega) (fun k_ j_ h_ => by rw [eσ688, dk_up_n (show ¬ (k_ = 141 ∧ j_ = 7) from fun q_ => h_ (Or.inl (q_))), hF259 k_ j_ (fun w_ => h_ (w_.elim (fun x0_ => Or.inl (x0_)) (fun y0_ => Or.inr (y0_))))]) (by omega) (by omega) (by omega)
                            · skip
                              refine dk_aload_n (pc' := 287) hE dX11_next_286 rfl rfl rfl ?_
                              refine dk_bipush (pc' := 289) hE dX11_next_287 (by decide) rfl ?_
                              refine dk_aload_n (pc' := 290) hE dX11_next_289 rfl rfl rfl ?_
                              refine gf_11_9 (pc' := 293) hE fl_X11_240 dX11_next_290 is_141 rfl (fun v694 hv694 htv694 hbv694 => ?_)
                              obtain ⟨v695, hv695⟩ : ∃ z : Int, z = 10 * v694 := ⟨_, rfl⟩
                              refine dk_imul (pc' := 294) hE dX11_next_293 hv695.symm (by omega) rfl ?_
                              refine dk_aload_n (pc' := 295) hE dX11_next_294 rfl rfl rfl ?_
                              refine dk_aload_n (pc' := 296) hE dX11_next_295 rfl rfl rfl ?_
                              refine gf_11_7 (pc' := 299) hE fl_X11_212 dX11_next_296 is_141 rfl (fun v696 hv696 htv696 hbv696 => ?_)
                              have hq696 : v674 = v696 := (show v696 = v674 by rw [hv696, hv682]).symm
                              subst hq696
                              clear htv696 hbv696
                              refine dk_cV (pc' := 302) (as := [(0, v674)]) hE lk_X11_218 (ct_X11_sign l G hGd v674) dX11_next_299 rfl is_141 rfl (by decide) (Nat.le_of_ble_eq_true rfl) ⟨rfl, (by omega)⟩ rfl (fun r698 σ697 hr698 hor698 => ?_)
                              obtain ⟨v699, rfl, hfσ697, hpr698⟩ := hr698
                              have hsσ697 : σ259c = σ697 := (funext (fun k => funext (fun j => hfσ697 k j not_false))).symm
                              subst hsσ697
                              obtain ⟨v700, hv700⟩ : ∃ z : Int, z = v695 + v699 := ⟨_, rfl⟩
                              refine dk_iadd (pc' := 303) hE dX11_next_302 hv700.symm (by omega) rfl ?_
                              refine dk_bipush (pc' := 305) hE dX11_next_303 (by decide) rfl ?_
                              obtain ⟨v701, hv701⟩ : ∃ z : Int, z = v700 - 48 := ⟨_, rfl⟩
                              refine dk_isub (pc' := 306) hE dX11_next_305 hv701.symm (by omega) rfl ?_
                              refine pf_11_9 (pc' := 309) hE fl_X11_240 dX11_next_306 is_141 (by omega) rfl (fun σ702 eσ702 => ?_)
                              refine dk_aload_n (pc' := 310) hE dX11_next_309 rfl rfl rfl ?_
                              refine dk_dup (pc' := 311) hE dX11_next_310 (show (4 : Nat) ≠ 3 by decide) rfl ?_
                              refine gf_11_7 (pc' := 314) hE fl_X11_212 dX11_next_311 is_141 rfl (fun v703 hv703 htv703 hbv703 => ?_)
                              have hq703 : v674 = v703 := (show v703 = v674 by rw [hv703, eσ702, dk_up_n (show ¬ (141 = 141 ∧ 7 = 9) by omega), hv696]).symm
                              subst hq703
                              clear htv703 hbv703
                              refine dk_iconst (pc' := 315) hE dX11_next_314 (by decide) rfl ?_
                              obtain ⟨v704, hv704⟩ : ∃ z : Int, z = v674 + 1 := ⟨_, rfl⟩
                              refine dk_iadd (pc' := 316) hE dX11_next_315 hv704.symm (by omega) rfl ?_
                              refine pf_11_7 (pc' := 319) hE fl_X11_212 dX11_next_316 is_141 (by omega) rfl (fun σ705 eσ705 => ?_)
                              refine dk_goto (tgt := 259) hE dX11_next_319 (by decide) ?_
                              have hz705_141_6 := (show σ705 141 6 = _ by rw [eσ705, dk_up_n (show ¬ (141 = 141 ∧ 6 = 7) by omega), eσ702, dk_up_n (show ¬ (141 = 141 ∧ 6 = 9) by omega)])
                              have hz706_141_7 : σ705 141 7 = v704 := by rw [eσ705, dk_up_s]
                              have hz707_141_3 := (show σ705 141 3 = _ by rw [eσ705, dk_up_n (show ¬ (141 = 141 ∧ 3 = 7) by omega), eσ702, dk_up_n (show ¬ (141 = 141 ∧ 3 = 9) by omega)])
                              have hz708_141_4 := (show σ705 141 4 = _ by rw [eσ705, dk_up_n (show ¬ (141 = 141 ∧ 4 = 7) by omega), eσ702, dk_up_n (show ¬ (141 = 141 ∧ 4 = 9) by omega)])
                              have hz709_141_9 : σ705 141 9 = v701 := by rw [eσ705, dk_up_n (show ¬ (141 = 141 ∧ 9 = 7) by omega), eσ702, dk_up_s]
                              exact ih259 σ705 (by omega) (fun k_ j_ h_ => by rw [eσ705, dk_up_n (show ¬ (k_ = 141 ∧ j_ = 7) from fun q_ => h_ (Or.inl (q_))), eσ702, dk_up_n (show ¬ (k_ = 141 ∧ j_ = 9) from fun q_ => h_ (Or.inr (q_))), hF259 k_ j_ (fun w_ => h_ (w_.elim (fun x0_ => Or.inl (x0_)) (fun y0_ => Or.inr (y0_))))]) (by omega) (by omega) (by omega)
                          · skip
                            refine dk_if_eq (tgt := 322) (pc' := 273) hE dX11_next_270 (by decide) rfl (fun hc711 => ?_) (fun hc711 => absurd hc711 (by decide))
                            refine dk_aload_n (pc' := 323) hE dX11_next_322 rfl rfl rfl ?_
                            refine dk_aload_n (pc' := 324) hE dX11_next_323 rfl rfl rfl ?_
                            refine gf_11_7 (pc' := 327) hE fl_X11_212 dX11_next_324 is_141 rfl (fun v712 hv712 htv712 hbv712 => ?_)
                            have hq712 : v674 = v712 := (show v712 = v674 by rw [hv712, hv674]).symm
                            subst hq712
                            clear htv712 hbv712
                            refine dk_aload_n (pc' := 328) hE dX11_next_327 rfl rfl rfl ?_
                            refine gf_11_6 (pc' := 331) hE fl_X11_215 dX11_next_328 is_141 rfl (fun v713 hv713 htv713 hbv713 => ?_)
                            have hq713 : v3 = v713 := (show v713 = v3 by rw [hv713, hF259 141 6 (by omega), eσ673, dk_up_n (show ¬ (141 = 141 ∧ 6 = 7) by omega), eσ670, dk_up_n (show ¬ (141 = 141 ∧ 6 = 9) by omega), hv565]).symm
                            subst hq713
                            clear htv713 hbv713
                            obtain ⟨v714, hv714⟩ : ∃ z : Int, z = v674 - v3 := ⟨_, rfl⟩
                            refine dk_isub (pc' := 332) hE dX11_next_331 hv714.symm (by omega) rfl ?_
                            refine dk_iconst (pc' := 333) hE dX11_next_332 (by decide) rfl ?_
                            refine dk_icmp_gt (tgt := 350) (pc' := 336) hE dX11_next_333 (by decide) rfl (fun hc715 => ?_) (fun hc715 => ?_)
                            · skip
                              refine dk_iconst (pc' := 351) hE dX11_next_350 (by decide) rfl ?_
                              refine dk_goto (tgt := 355) hE dX11_next_351 (by decide) ?_
                              refine pf_11_8 (pc' := 358) hE fl_X11_222 dX11_next_355 is_141 (by omega) rfl (fun σ716 eσ716 => ?_)
                              refine dk_goto (tgt := 377) hE dX11_next_358 (by decide) ?_
                              have hz717 : σ716 141 3 = v4 := by rw [eσ716, dk_up_n (show ¬ (141 = 141 ∧ 3 = 8) by omega), hF259 141 3 (by omega), eσ673, dk_up_n (show ¬ (141 = 141 ∧ 3 = 7) by omega), eσ670, dk_up_n (show ¬ (141 = 141 ∧ 3 = 9) by omega), eσ554, dk_up_n (show ¬ (141 = 141 ∧ 3 = 7) by omega), eσ552, dk_up_n (show ¬ (141 = 141 ∧ 3 = 9) by omega), hv431]
                              have hz718 : σ716 141 4 = σ 141 4 := by rw [eσ716, dk_up_n (show ¬ (141 = 141 ∧ 4 = 8) by omega), hF259 141 4 (by omega), eσ673, dk_up_n (show ¬ (141 = 141 ∧ 4 = 7) by omega), eσ670, dk_up_n (show ¬ (141 = 141 ∧ 4 = 9) by omega), eσ554, dk_up_n (show ¬ (141 = 141 ∧ 4 = 7) by omega), eσ552, dk_up_n (show ¬ (141 = 141 ∧ 4 = 9) by omega), eσ429, dk_up_n (show ¬ (141 = 141 ∧ 4 = 7) by omega), hF8 141 4 (by omega), eσ2, dk_up_n (show ¬ (141 = 141 ∧ 4 = 6) by omega)]
                              have hz719 : σ716 141 6 = v3 := by rw [eσ716, dk_up_n (show ¬ (141 = 141 ∧ 6 = 8) by omega), hv713]
                              have hz720 : σ716 141 7 = v674 := by rw [eσ716, dk_up_n (show ¬ (141 = 141 ∧ 7 = 8) by omega), hv712]
                              have hz721 : σ716 141 8 = 1 := by rw [eσ716, dk_up_s]
                              exact dk_vret (st := []) hE hR dX11_next_377 ⟨rfl, (fun k_ j_ h_ => by rw [eσ716, dk_up_n (show ¬ (k_ = 141 ∧ j_ = 8) from fun q_ => h_ (Or.inr (Or.inr (Or.inl (q_))))), hF259 k_ j_ (fun w_ => h_ (w_.elim (fun x0_ => Or.inr (Or.inl (x0_))) (fun y0_ => Or.inr (Or.inr (Or.inr (Or.inl (y0_))))))), eσ673, dk_up_n (show ¬ (k_ = 141 ∧ j_ = 7) from fun q_ => h_ (Or.inr (Or.inl (q_)))), eσ670, dk_up_n (show ¬ (k_ = 141 ∧ j_ = 9) from fun q_ => h_ (Or.inr (Or.inr (Or.inr (Or.inl (q_)))))), eσ554, dk_up_n (show ¬ (k_ = 141 ∧ j_ = 7) from fun q_ => h_ (Or.inr (Or.inl (q_)))), eσ552, dk_up_n (show ¬ (k_ = 141 ∧ j_ = 9) from fun q_ => h_ (Or.inr (Or.inr (Or.inr (Or.inl (q_)))))), eσ429, dk_up_n (show ¬ (k_ = 141 ∧ j_ = 7) from fun q_ => h_ (Or.inr (Or.inl (q_)))), hF8 k_ j_ (fun w_ => h_ (Or.inl (w_))), eσ2, dk_up_n (show ¬ (k_ = 141 ∧ j_ = 6) from fun q_ => h_ (Or.inl (q_)))]), ⟨NY_of (by omega) (by omega) (by omega), by omega⟩⟩
                            · skip
                              refine dk_aload_n (pc' := 337) hE dX11_next_336 rfl rfl rfl ?_
                              refine dk_aload_n (pc' := 338) hE dX11_next_337 rfl rfl rfl ?_
                              refine gf_11_7 (pc' := 341) hE fl_X11_212 dX11_next_338 is_141 rfl (fun v722 hv722 htv722 hbv722 => ?_)
                              have hq722 : v674 = v722 := (show v722 = v674 by rw [hv722, hv712]).symm
                              subst hq722
                              clear htv722 hbv722
                              refine dk_cV (pc' := 344) (as := [(0, v674)]) hE lk_X11_218 (ct_X11_sign l G hGd v674) dX11_next_341 rfl is_141 rfl (by decide) (Nat.le_of_ble_eq_true rfl) ⟨rfl, (by omega)⟩ rfl (fun r724 σ723 hr724 hor724 => ?_)
                              obtain ⟨v725, rfl, hfσ723, hpr724⟩ := hr724
                              have hsσ723 : σ259c = σ723 := (funext (fun k => funext (fun j => hfσ723 k j not_false))).symm
                              subst hsσ723
                              refine dk_cS (pc' := 347) (as := [(0, v725)]) hE lk_X11_225 (ct_X11_isLetter l G hGd v725) dX11_next_344 rfl rfl (by decide) (Nat.le_of_ble_eq_true rfl) rfl rfl (fun r727 σ726 hr727 hor727 => ?_)
                              obtain ⟨v728, rfl, hfσ726, hpr727⟩ := hr727
                              have hsσ726 : σ259c = σ726 := (funext (fun k => funext (fun j => hfσ726 k j not_false))).symm
                              subst hsσ726
                              rcases hpr727 with ⟨rfl, hpr727⟩ | ⟨rfl, hpr727⟩
                              · skip
                                refine dk_if_eq (tgt := 354) (pc' := 350) hE dX11_next_347 (by decide) rfl (fun hc729 => absurd hc729 (by decide)) (fun hc729 => ?_)
                                refine dk_iconst (pc' := 351) hE dX11_next_350 (by decide) rfl ?_
                                refine dk_goto (tgt := 355) hE dX11_next_351 (by decide) ?_
                                refine pf_11_8 (pc' := 358) hE fl_X11_222 dX11_next_355 is_141 (by omega) rfl (fun σ730 eσ730 => ?_)
                                refine dk_goto (tgt := 377) hE dX11_next_358 (by decide) ?_
                                have hz731 : σ730 141 3 = v4 := by rw [eσ730, dk_up_n (show ¬ (141 = 141 ∧ 3 = 8) by omega), hF259 141 3 (by omega), eσ673, dk_up_n (show ¬ (141 = 141 ∧ 3 = 7) by omega), eσ670, dk_up_n (show ¬ (141 = 141 ∧ 3 = 9) by omega), eσ554, dk_up_n (show ¬ (141 = 141 ∧ 3 = 7) by omega), eσ552, dk_up_n (show ¬ (141 = 141 ∧ 3 = 9) by omega), hv431]
                                have hz732 : σ730 141 4 = σ 141 4 := by rw [eσ730, dk_up_n (show ¬ (141 = 141 ∧ 4 = 8) by omega), hF259 141 4 (by omega), eσ673, dk_up_n (show ¬ (141 = 141 ∧ 4 = 7) by omega), eσ670, dk_up_n (show ¬ (141 = 141 ∧ 4 = 9) by omega), eσ554, dk_up_n (show ¬ (141 = 141 ∧ 4 = 7) by omega), eσ552, dk_up_n (show ¬ (141 = 141 ∧ 4 = 9) by omega), eσ429, dk_up_n (show ¬ (141 = 141 ∧ 4 = 7) by omega), hF8 141 4 (by omega), eσ2, dk_up_n (show ¬ (141 = 141 ∧ 4 = 6) by omega)]
                                have hz733 : σ730 141 6 = v3 := by rw [eσ730, dk_up_n (show ¬ (141 = 141 ∧ 6 = 8) by omega), hv713]
                                have hz734 : σ730 141 7 = v674 := by rw [eσ730, dk_up_n (show ¬ (141 = 141 ∧ 7 = 8) by omega), hv722]
                                have hz735 : σ730 141 8 = 1 := by rw [eσ730, dk_up_s]
                                exact dk_vret (st := []) hE hR dX11_next_377 ⟨rfl, (fun k_ j_ h_ => by rw [eσ730, dk_up_n (show ¬ (k_ = 141 ∧ j_ = 8) from fun q_ => h_ (Or.inr (Or.inr (Or.inl (q_))))), hF259 k_ j_ (fun w_ => h_ (w_.elim (fun x0_ => Or.inr (Or.inl (x0_))) (fun y0_ => Or.inr (Or.inr (Or.inr (Or.inl (y0_))))))), eσ673, dk_up_n (show ¬ (k_ = 141 ∧ j_ = 7) from fun q_ => h_ (Or.inr (Or.inl (q_)))), eσ670, dk_up_n (show ¬ (k_ = 141 ∧ j_ = 9) from fun q_ => h_ (Or.inr (Or.inr (Or.inr (Or.inl (q_)))))), eσ554, dk_up_n (show ¬ (k_ = 141 ∧ j_ = 7) from fun q_ => h_ (Or.inr (Or.inl (q_)))), eσ552, dk_up_n (show ¬ (k_ = 141 ∧ j_ = 9) from fun q_ => h_ (Or.inr (Or.inr (Or.inr (Or.inl (q_)))))), eσ429, dk_up_n (show ¬ (k_ = 141 ∧ j_ = 7) from fun q_ => h_ (Or.inr (Or.inl (q_)))), hF8 k_ j_ (fun w_ => h_ (Or.inl (w_))), eσ2, dk_up_n (show ¬ (k_ = 141 ∧ j_ = 6) from fun q_ => h_ (Or.inl (q_)))]), ⟨NY_of (by omega) (by omega) (by omega), by omega⟩⟩
                              · skip
                                refine dk_if_eq (tgt := 354) (pc' := 350) hE dX11_next_347 (by decide) rfl (fun hc736 => ?_) (fun hc736 => absurd hc736 (by decide))
                                refine dk_iconst (pc' := 355) hE dX11_next_354 (by decide) rfl ?_
                                refine pf_11_8 (pc' := 358) hE fl_X11_222 dX11_next_355 is_141 (by omega) rfl (fun σ737 eσ737 => ?_)
                                refine dk_goto (tgt := 377) hE dX11_next_358 (by decide) ?_
                                have hz738 : σ737 141 3 = v4 := by rw [eσ737, dk_up_n (show ¬ (141 = 141 ∧ 3 = 8) by omega), hF259 141 3 (by omega), eσ673, dk_up_n (show ¬ (141 = 141 ∧ 3 = 7) by omega), eσ670, dk_up_n (show ¬ (141 = 141 ∧ 3 = 9) by omega), eσ554, dk_up_n (show ¬ (141 = 141 ∧ 3 = 7) by omega), eσ552, dk_up_n (show ¬ (141 = 141 ∧ 3 = 9) by omega), hv431]
                                have hz739 : σ737 141 4 = σ 141 4 := by rw [eσ737, dk_up_n (show ¬ (141 = 141 ∧ 4 = 8) by omega), hF259 141 4 (by omega), eσ673, dk_up_n (show ¬ (141 = 141 ∧ 4 = 7) by omega), eσ670, dk_up_n (show ¬ (141 = 141 ∧ 4 = 9) by omega), eσ554, dk_up_n (show ¬ (141 = 141 ∧ 4 = 7) by omega), eσ552, dk_up_n (show ¬ (141 = 141 ∧ 4 = 9) by omega), eσ429, dk_up_n (show ¬ (141 = 141 ∧ 4 = 7) by omega), hF8 141 4 (by omega), eσ2, dk_up_n (show ¬ (141 = 141 ∧ 4 = 6) by omega)]
                                have hz740 : σ737 141 6 = v3 := by rw [eσ737, dk_up_n (show ¬ (141 = 141 ∧ 6 = 8) by omega), hv713]
                                have hz741 : σ737 141 7 = v674 := by rw [eσ737, dk_up_n (show ¬ (141 = 141 ∧ 7 = 8) by omega), hv722]
                                have hz742 : σ737 141 8 = 4 := by rw [eσ737, dk_up_s]
                                exact dk_vret (st := []) hE hR dX11_next_377 ⟨rfl, (fun k_ j_ h_ => by rw [eσ737, dk_up_n (show ¬ (k_ = 141 ∧ j_ = 8) from fun q_ => h_ (Or.inr (Or.inr (Or.inl (q_))))), hF259 k_ j_ (fun w_ => h_ (w_.elim (fun x0_ => Or.inr (Or.inl (x0_))) (fun y0_ => Or.inr (Or.inr (Or.inr (Or.inl (y0_))))))), eσ673, dk_up_n (show ¬ (k_ = 141 ∧ j_ = 7) from fun q_ => h_ (Or.inr (Or.inl (q_)))), eσ670, dk_up_n (show ¬ (k_ = 141 ∧ j_ = 9) from fun q_ => h_ (Or.inr (Or.inr (Or.inr (Or.inl (q_)))))), eσ554, dk_up_n (show ¬ (k_ = 141 ∧ j_ = 7) from fun q_ => h_ (Or.inr (Or.inl (q_)))), eσ552, dk_up_n (show ¬ (k_ = 141 ∧ j_ = 9) from fun q_ => h_ (Or.inr (Or.inr (Or.inr (Or.inl (q_)))))), eσ429, dk_up_n (show ¬ (k_ = 141 ∧ j_ = 7) from fun q_ => h_ (Or.inr (Or.inl (q_)))), hF8 k_ j_ (fun w_ => h_ (Or.inl (w_))), eσ2, dk_up_n (show ¬ (k_ = 141 ∧ j_ = 6) from fun q_ => h_ (Or.inl (q_)))]), ⟨NY_of (by omega) (by omega) (by omega), by omega⟩⟩
                      have hz743 : σ673 141 6 = v3 := by rw [eσ673, dk_up_n (show ¬ (141 = 141 ∧ 6 = 7) by omega), eσ670, dk_up_n (show ¬ (141 = 141 ∧ 6 = 9) by omega), hv565]
                      have hz744 : σ673 141 7 = v672 := by rw [eσ673, dk_up_s]
                      have hz745 : σ673 141 7 = v672 := by rw [eσ673, dk_up_s]
                      have hz746 : σ673 141 6 = v3 := by rw [eσ673, dk_up_n (show ¬ (141 = 141 ∧ 6 = 7) by omega), eσ670, dk_up_n (show ¬ (141 = 141 ∧ 6 = 9) by omega), hv565]
                      have hz747 : σ673 141 3 = v4 := by rw [eσ673, dk_up_n (show ¬ (141 = 141 ∧ 3 = 7) by omega), eσ670, dk_up_n (show ¬ (141 = 141 ∧ 3 = 9) by omega), eσ554, dk_up_n (show ¬ (141 = 141 ∧ 3 = 7) by omega), eσ552, dk_up_n (show ¬ (141 = 141 ∧ 3 = 9) by omega), hv431]
                      have hz748 : σ673 141 4 = σ 141 4 := by rw [eσ673, dk_up_n (show ¬ (141 = 141 ∧ 4 = 7) by omega), eσ670, dk_up_n (show ¬ (141 = 141 ∧ 4 = 9) by omega), eσ554, dk_up_n (show ¬ (141 = 141 ∧ 4 = 7) by omega), eσ552, dk_up_n (show ¬ (141 = 141 ∧ 4 = 9) by omega), eσ429, dk_up_n (show ¬ (141 = 141 ∧ 4 = 7) by omega), hF8 141 4 (by omega), eσ2, dk_up_n (show ¬ (141 = 141 ∧ 4 = 6) by omega)]
                      have hz749 : σ673 141 7 = v672 := by rw [eσ673, dk_up_s]
                      have hz750 : σ673 141 6 = v3 := by rw [eσ673, dk_up_n (show ¬ (141 = 141 ∧ 6 = 7) by omega), eσ670, dk_up_n (show ¬ (141 = 141 ∧ 6 = 9) by omega), hv565]
                      have hz751 : σ673 141 9 = v669 := by rw [eσ673, dk_up_n (show ¬ (141 = 141 ∧ 9 = 7) by omega), eσ670, dk_up_s]
                      have hz752 : σ673 141 7 = v672 := by rw [eσ673, dk_up_s]
                      have hz753 : σ673 141 6 = v3 := by rw [eσ673, dk_up_n (show ¬ (141 = 141 ∧ 6 = 7) by omega), eσ670, dk_up_n (show ¬ (141 = 141 ∧ 6 = 9) by omega), hv565]
                      have hz754 : σ673 141 9 = v669 := by rw [eσ673, dk_up_n (show ¬ (141 = 141 ∧ 9 = 7) by omega), eσ670, dk_up_s]
                      have hz755 : σ673 141 7 = v672 := by rw [eσ673, dk_up_s]
                      have hz756 : σ673 141 6 = v3 := by rw [eσ673, dk_up_n (show ¬ (141 = 141 ∧ 6 = 7) by omega), eσ670, dk_up_n (show ¬ (141 = 141 ∧ 6 = 9) by omega), hv565]
                      have hz757 : σ673 141 9 = v669 := by rw [eσ673, dk_up_n (show ¬ (141 = 141 ∧ 9 = 7) by omega), eσ670, dk_up_s]
                      have hz758 : σ673 141 7 = v672 := by rw [eσ673, dk_up_s]
                      have hz759 : σ673 141 6 = v3 := by rw [eσ673, dk_up_n (show ¬ (141 = 141 ∧ 6 = 7) by omega), eσ670, dk_up_n (show ¬ (141 = 141 ∧ 6 = 9) by omega), hv565]
                      have hz760 : σ673 141 7 = v672 := by rw [eσ673, dk_up_s]
                      have hz761_141_7 : σ673 141 7 = v672 := by rw [eσ673, dk_up_s]
                      have hz764_141_9 : σ673 141 9 = v669 := by rw [eσ673, dk_up_n (show ¬ (141 = 141 ∧ 9 = 7) by omega), eσ670, dk_up_s]
                      exact lp259 _ σ673 (Nat.lt_succ_self _) (fun k_ j_ h_ => rfl) (by omega) (by omega) (by omega)
                  · skip
                    refine dk_if_eq (tgt := 322) (pc' := 273) hE dX11_next_270 (by decide) rfl (fun hc766 => ?_) (fun hc766 => absurd hc766 (by decide))
                    refine dk_aload_n (pc' := 323) hE dX11_next_322 rfl rfl rfl ?_
                    refine dk_aload_n (pc' := 324) hE dX11_next_323 rfl rfl rfl ?_
                    refine gf_11_7 (pc' := 327) hE fl_X11_212 dX11_next_324 is_141 rfl (fun v767 hv767 htv767 hbv767 => ?_)
                    have hq767 : v3 = v767 := (show v767 = v3 by rw [hv767, hv555]).symm
                    subst hq767
                    clear htv767 hbv767
                    refine dk_aload_n (pc' := 328) hE dX11_next_327 rfl rfl rfl ?_
                    refine gf_11_6 (pc' := 331) hE fl_X11_215 dX11_next_328 is_141 rfl (fun v768 hv768 htv768 hbv768 => ?_)
                    have hq768 : v3 = v768 := (show v768 = v3 by rw [hv768, eσ554, dk_up_n (show ¬ (141 = 141 ∧ 6 = 7) by omega), hv553]).symm
                    subst hq768
                    clear htv768 hbv768
                    obtain ⟨v769, hv769⟩ : ∃ z : Int, z = v3 - v3 := ⟨_, rfl⟩
                    refine dk_isub (pc' := 332) hE dX11_next_331 hv769.symm (by omega) rfl ?_
                    refine dk_iconst (pc' := 333) hE dX11_next_332 (by decide) rfl ?_
                    refine dk_icmp_gt (tgt := 350) (pc' := 336) hE dX11_next_333 (by decide) rfl (fun hc770 => ?_) (fun hc770 => ?_)
                    · skip
                      refine dk_iconst (pc' := 351) hE dX11_next_350 (by decide) rfl ?_
                      refine dk_goto (tgt := 355) hE dX11_next_351 (by decide) ?_
                      refine pf_11_8 (pc' := 358) hE fl_X11_222 dX11_next_355 is_141 (by omega) rfl (fun σ771 eσ771 => ?_)
                      refine dk_goto (tgt := 377) hE dX11_next_358 (by decide) ?_
                      have hz772 : σ771 141 3 = v4 := by rw [eσ771, dk_up_n (show ¬ (141 = 141 ∧ 3 = 8) by omega), eσ554, dk_up_n (show ¬ (141 = 141 ∧ 3 = 7) by omega), eσ552, dk_up_n (show ¬ (141 = 141 ∧ 3 = 9) by omega), hv431]
                      have hz773 : σ771 141 4 = σ 141 4 := by rw [eσ771, dk_up_n (show ¬ (141 = 141 ∧ 4 = 8) by omega), eσ554, dk_up_n (show ¬ (141 = 141 ∧ 4 = 7) by omega), eσ552, dk_up_n (show ¬ (141 = 141 ∧ 4 = 9) by omega), eσ429, dk_up_n (show ¬ (141 = 141 ∧ 4 = 7) by omega), hF8 141 4 (by omega), eσ2, dk_up_n (show ¬ (141 = 141 ∧ 4 = 6) by omega)]
                      have hz774 : σ771 141 6 = v3 := by rw [eσ771, dk_up_n (show ¬ (141 = 141 ∧ 6 = 8) by omega), hv768]
                      have hz775 : σ771 141 7 = v3 := by rw [eσ771, dk_up_n (show ¬ (141 = 141 ∧ 7 = 8) by omega), hv767]
                      have hz776 : σ771 141 8 = 1 := by rw [eσ771, dk_up_s]
                      exact dk_vret (st := []) hE hR dX11_next_377 ⟨rfl, (fun k_ j_ h_ => by rw [eσ771, dk_up_n (show ¬ (k_ = 141 ∧ j_ = 8) from fun q_ => h_ (Or.inr (Or.inr (Or.inl (q_))))), eσ554, dk_up_n (show ¬ (k_ = 141 ∧ j_ = 7) from fun q_ => h_ (Or.inr (Or.inl (q_)))), eσ552, dk_up_n (show ¬ (k_ = 141 ∧ j_ = 9) from fun q_ => h_ (Or.inr (Or.inr (Or.inr (Or.inl (q_)))))), eσ429, dk_up_n (show ¬ (k_ = 141 ∧ j_ = 7) from fun q_ => h_ (Or.inr (Or.inl (q_)))), hF8 k_ j_ (fun w_ => h_ (Or.inl (w_))), eσ2, dk_up_n (show ¬ (k_ = 141 ∧ j_ = 6) from fun q_ => h_ (Or.inl (q_)))]), ⟨NY_of (by omega) (by omega) (by omega), by omega⟩⟩
                    · skip
                      refine dk_aload_n (pc' := 337) hE dX11_next_336 rfl rfl rfl ?_
                      refine dk_aload_n (pc' := 338) hE dX11_next_337 rfl rfl rfl ?_
                      refine gf_11_7 (pc' := 341) hE fl_X11_212 dX11_next_338 is_141 rfl (fun v777 hv777 htv777 hbv777 => ?_)
                      have hq777 : v3 = v777 := (show v777 = v3 by rw [hv777, hv767]).symm
                      subst hq777
                      clear htv777 hbv777
                      refine dk_cV (pc' := 344) (as := [(0, v3)]) hE lk_X11_218 (ct_X11_sign l G hGd v3) dX11_next_341 rfl is_141 rfl (by decide) (Nat.le_of_ble_eq_true rfl) ⟨rfl, (by omega)⟩ rfl (fun r779 σ778 hr779 hor779 => ?_)
                      obtain ⟨v780, rfl, hfσ778, hpr779⟩ := hr779
                      have hsσ778 : σ554 = σ778 := (funext (fun k => funext (fun j => hfσ778 k j not_false))).symm
                      subst hsσ778
                      refine dk_cS (pc' := 347) (as := [(0, v780)]) hE lk_X11_225 (ct_X11_isLetter l G hGd v780) dX11_next_344 rfl rfl (by decide) (Nat.le_of_ble_eq_true rfl) rfl rfl (fun r782 σ781 hr782 hor782 => ?_)
                      obtain ⟨v783, rfl, hfσ781, hpr782⟩ := hr782
                      have hsσ781 : σ554 = σ781 := (funext (fun k => funext (fun j => hfσ781 k j not_false))).symm
                      subst hsσ781
                      rcases hpr782 with ⟨rfl, hpr782⟩ | ⟨rfl, hpr782⟩
                      · skip
                        refine dk_if_eq (tgt := 354) (pc' := 350) hE dX11_next_347 (by decide) rfl (fun hc784 => absurd hc784 (by decide)) (fun hc784 => ?_)
                        refine dk_iconst (pc' := 351) hE dX11_next_350 (by decide) rfl ?_
                        refine dk_goto (tgt := 355) hE dX11_next_351 (by decide) ?_
                        refine pf_11_8 (pc' := 358) hE fl_X11_222 dX11_next_355 is_141 (by omega) rfl (fun σ785 eσ785 => ?_)
                        refine dk_goto (tgt := 377) hE dX11_next_358 (by decide) ?_
                        have hz786 : σ785 141 3 = v4 := by rw [eσ785, dk_up_n (show ¬ (141 = 141 ∧ 3 = 8) by omega), eσ554, dk_up_n (show ¬ (141 = 141 ∧ 3 = 7) by omega), eσ552, dk_up_n (show ¬ (141 = 141 ∧ 3 = 9) by omega), hv431]
                        have hz787 : σ785 141 4 = σ 141 4 := by rw [eσ785, dk_up_n (show ¬ (141 = 141 ∧ 4 = 8) by omega), eσ554, dk_up_n (show ¬ (141 = 141 ∧ 4 = 7) by omega), eσ552, dk_up_n (show ¬ (141 = 141 ∧ 4 = 9) by omega), eσ429, dk_up_n (show ¬ (141 = 141 ∧ 4 = 7) by omega), hF8 141 4 (by omega), eσ2, dk_up_n (show ¬ (141 = 141 ∧ 4 = 6) by omega)]
                        have hz788 : σ785 141 6 = v3 := by rw [eσ785, dk_up_n (show ¬ (141 = 141 ∧ 6 = 8) by omega), hv768]
                        have hz789 : σ785 141 7 = v3 := by rw [eσ785, dk_up_n (show ¬ (141 = 141 ∧ 7 = 8) by omega), hv777]
                        have hz790 : σ785 141 8 = 1 := by rw [eσ785, dk_up_s]
                        exact dk_vret (st := []) hE hR dX11_next_377 ⟨rfl, (fun k_ j_ h_ => by rw [eσ785, dk_up_n (show ¬ (k_ = 141 ∧ j_ = 8) from fun q_ => h_ (Or.inr (Or.inr (Or.inl (q_))))), eσ554, dk_up_n (show ¬ (k_ = 141 ∧ j_ = 7) from fun q_ => h_ (Or.inr (Or.inl (q_)))), eσ552, dk_up_n (show ¬ (k_ = 141 ∧ j_ = 9) from fun q_ => h_ (Or.inr (Or.inr (Or.inr (Or.inl (q_)))))), eσ429, dk_up_n (show ¬ (k_ = 141 ∧ j_ = 7) from fun q_ => h_ (Or.inr (Or.inl (q_)))), hF8 k_ j_ (fun w_ => h_ (Or.inl (w_))), eσ2, dk_up_n (show ¬ (k_ = 141 ∧ j_ = 6) from fun q_ => h_ (Or.inl (q_)))]), ⟨NY_of (by omega) (by omega) (by omega), by omega⟩⟩
                      · skip
                        refine dk_if_eq (tgt := 354) (pc' := 350) hE dX11_next_347 (by decide) rfl (fun hc791 => ?_) (fun hc791 => absurd hc791 (by decide))
                        refine dk_iconst (pc' := 355) hE dX11_next_354 (by decide) rfl ?_
                        refine pf_11_8 (pc' := 358) hE fl_X11_222 dX11_next_355 is_141 (by omega) rfl (fun σ792 eσ792 => ?_)
                        refine dk_goto (tgt := 377) hE dX11_next_358 (by decide) ?_
                        have hz793 : σ792 141 3 = v4 := by rw [eσ792, dk_up_n (show ¬ (141 = 141 ∧ 3 = 8) by omega), eσ554, dk_up_n (show ¬ (141 = 141 ∧ 3 = 7) by omega), eσ552, dk_up_n (show ¬ (141 = 141 ∧ 3 = 9) by omega), hv431]
                        have hz794 : σ792 141 4 = σ 141 4 := by rw [eσ792, dk_up_n (show ¬ (141 = 141 ∧ 4 = 8) by omega), eσ554, dk_up_n (show ¬ (141 = 141 ∧ 4 = 7) by omega), eσ552, dk_up_n (show ¬ (141 = 141 ∧ 4 = 9) by omega), eσ429, dk_up_n (show ¬ (141 = 141 ∧ 4 = 7) by omega), hF8 141 4 (by omega), eσ2, dk_up_n (show ¬ (141 = 141 ∧ 4 = 6) by omega)]
                        have hz795 : σ792 141 6 = v3 := by rw [eσ792, dk_up_n (show ¬ (141 = 141 ∧ 6 = 8) by omega), hv768]
                        have hz796 : σ792 141 7 = v3 := by rw [eσ792, dk_up_n (show ¬ (141 = 141 ∧ 7 = 8) by omega), hv777]
                        have hz797 : σ792 141 8 = 4 := by rw [eσ792, dk_up_s]
                        exact dk_vret (st := []) hE hR dX11_next_377 ⟨rfl, (fun k_ j_ h_ => by rw [eσ792, dk_up_n (show ¬ (k_ = 141 ∧ j_ = 8) from fun q_ => h_ (Or.inr (Or.inr (Or.inl (q_))))), eσ554, dk_up_n (show ¬ (k_ = 141 ∧ j_ = 7) from fun q_ => h_ (Or.inr (Or.inl (q_)))), eσ552, dk_up_n (show ¬ (k_ = 141 ∧ j_ = 9) from fun q_ => h_ (Or.inr (Or.inr (Or.inr (Or.inl (q_)))))), eσ429, dk_up_n (show ¬ (k_ = 141 ∧ j_ = 7) from fun q_ => h_ (Or.inr (Or.inl (q_)))), hF8 k_ j_ (fun w_ => h_ (Or.inl (w_))), eσ2, dk_up_n (show ¬ (k_ = 141 ∧ j_ = 6) from fun q_ => h_ (Or.inl (q_)))]), ⟨NY_of (by omega) (by omega) (by omega), by omega⟩⟩
                · skip
                  refine dk_if_eq (tgt := 361) (pc' := 246) hE dX11_next_243 (by decide) rfl (fun hc798 => ?_) (fun hc798 => absurd hc798 (by decide))
                  refine dk_aload_n (pc' := 362) hE dX11_next_361 rfl rfl rfl ?_
                  refine dk_iload_n (pc' := 363) hE dX11_next_362 rfl rfl rfl ?_
                  refine dk_cS (pc' := 366) (as := [(0, v426)]) hE lk_X11_243 (ct_X11_isSign l G hGd v426) dX11_next_363 rfl rfl (by decide) (Nat.le_of_ble_eq_true rfl) rfl rfl (fun r800 σ799 hr800 hor800 => ?_)
                  obtain ⟨v801, rfl, hfσ799, hpr800⟩ := hr800
                  have hsσ799 : σ429 = σ799 := (funext (fun k => funext (fun j => hfσ799 k j not_false))).symm
                  subst hsσ799
                  refine dk_if_eq (tgt := 373) (pc' := 369) hE dX11_next_366 (by decide) rfl (fun hc802 => ?_) (fun hc802 => ?_)
                  · skip
                    refine dk_iconst (pc' := 374) hE dX11_next_373 (by decide) rfl ?_
                    refine pf_11_8 (pc' := 377) hE fl_X11_222 dX11_next_374 is_141 (by omega) rfl (fun σ803 eσ803 => ?_)
                    have hz804 : σ803 141 3 = v4 := by rw [eσ803, dk_up_n (show ¬ (141 = 141 ∧ 3 = 8) by omega), hv431]
                    have hz805 : σ803 141 4 = σ 141 4 := by rw [eσ803, dk_up_n (show ¬ (141 = 141 ∧ 4 = 8) by omega), eσ429, dk_up_n (show ¬ (141 = 141 ∧ 4 = 7) by omega), hF8 141 4 (by omega), eσ2, dk_up_n (show ¬ (141 = 141 ∧ 4 = 6) by omega)]
                    have hz806 : σ803 141 6 = v3 := by rw [eσ803, dk_up_n (show ¬ (141 = 141 ∧ 6 = 8) by omega), hv430]
                    have hz807 : σ803 141 7 = v428 := by rw [eσ803, dk_up_n (show ¬ (141 = 141 ∧ 7 = 8) by omega), eσ429, dk_up_s]
                    have hz808 : σ803 141 8 = 1 := by rw [eσ803, dk_up_s]
                    exact dk_vret (st := []) hE hR dX11_next_377 ⟨rfl, (fun k_ j_ h_ => by rw [eσ803, dk_up_n (show ¬ (k_ = 141 ∧ j_ = 8) from fun q_ => h_ (Or.inr (Or.inr (Or.inl (q_))))), eσ429, dk_up_n (show ¬ (k_ = 141 ∧ j_ = 7) from fun q_ => h_ (Or.inr (Or.inl (q_)))), hF8 k_ j_ (fun w_ => h_ (Or.inl (w_))), eσ2, dk_up_n (show ¬ (k_ = 141 ∧ j_ = 6) from fun q_ => h_ (Or.inl (q_)))]), ⟨NY_of (by omega) (by omega) (by omega), by omega⟩⟩
                  · skip
                    refine dk_iconst (pc' := 370) hE dX11_next_369 (by decide) rfl ?_
                    refine dk_goto (tgt := 374) hE dX11_next_370 (by decide) ?_
                    refine pf_11_8 (pc' := 377) hE fl_X11_222 dX11_next_374 is_141 (by omega) rfl (fun σ809 eσ809 => ?_)
                    have hz810 : σ809 141 3 = v4 := by rw [eσ809, dk_up_n (show ¬ (141 = 141 ∧ 3 = 8) by omega), hv431]
                    have hz811 : σ809 141 4 = σ 141 4 := by rw [eσ809, dk_up_n (show ¬ (141 = 141 ∧ 4 = 8) by omega), eσ429, dk_up_n (show ¬ (141 = 141 ∧ 4 = 7) by omega), hF8 141 4 (by omega), eσ2, dk_up_n (show ¬ (141 = 141 ∧ 4 = 6) by omega)]
                    have hz812 : σ809 141 6 = v3 := by rw [eσ809, dk_up_n (show ¬ (141 = 141 ∧ 6 = 8) by omega), hv430]
                    have hz813 : σ809 141 7 = v428 := by rw [eσ809, dk_up_n (show ¬ (141 = 141 ∧ 7 = 8) by omega), eσ429, dk_up_s]
                    have hz814 : σ809 141 8 = 5 := by rw [eσ809, dk_up_s]
                    exact dk_vret (st := []) hE hR dX11_next_377 ⟨rfl, (fun k_ j_ h_ => by rw [eσ809, dk_up_n (show ¬ (k_ = 141 ∧ j_ = 8) from fun q_ => h_ (Or.inr (Or.inr (Or.inl (q_))))), eσ429, dk_up_n (show ¬ (k_ = 141 ∧ j_ = 7) from fun q_ => h_ (Or.inr (Or.inl (q_)))), hF8 k_ j_ (fun w_ => h_ (Or.inl (w_))), eσ2, dk_up_n (show ¬ (k_ = 141 ∧ j_ = 6) from fun q_ => h_ (Or.inl (q_)))]), ⟨NY_of (by omega) (by omega) (by omega), by omega⟩⟩
            · skip
              refine dk_aload_n (pc' := 89) hE dX11_next_88 rfl rfl rfl ?_
              refine dk_iconst (pc' := 90) hE dX11_next_89 (by decide) rfl ?_
              refine pf_11_8 (pc' := 93) hE fl_X11_222 dX11_next_90 is_141 (by omega) rfl (fun σ815 eσ815 => ?_)
              refine dk_aload_n (pc' := 94) hE dX11_next_93 rfl rfl rfl ?_
              refine dk_aload_n (pc' := 95) hE dX11_next_94 rfl rfl rfl ?_
              refine gf_11_3 (pc' := 98) hE fl_X11_164 dX11_next_95 is_141 rfl (fun v816 hv816 htv816 hbv816 => ?_)
              have hq816 : v4 = v816 := (show v816 = v4 by rw [hv816, eσ815, dk_up_n (show ¬ (141 = 141 ∧ 3 = 8) by omega), hv431]).symm
              subst hq816
              clear htv816 hbv816
              refine pf_11_6 (pc' := 101) hE fl_X11_215 dX11_next_98 is_141 (by omega) rfl (fun σ817 eσ817 => ?_)
              refine dk_aload_n (pc' := 102) hE dX11_next_101 rfl rfl rfl ?_
              refine dk_aload_n (pc' := 103) hE dX11_next_102 rfl rfl rfl ?_
              refine gf_11_3 (pc' := 106) hE fl_X11_164 dX11_next_103 is_141 rfl (fun v818 hv818 htv818 hbv818 => ?_)
              have hq818 : v4 = v818 := (show v818 = v4 by rw [hv818, eσ817, dk_up_n (show ¬ (141 = 141 ∧ 3 = 6) by omega), hv816]).symm
              subst hq818
              clear htv818 hbv818
              refine pf_11_7 (pc' := 109) hE fl_X11_212 dX11_next_106 is_141 (by omega) rfl (fun σ819 eσ819 => ?_)
              refine dk_goto (tgt := 377) hE dX11_next_109 (by decide) ?_
              have hz820 : σ819 141 3 = v4 := by rw [eσ819, dk_up_n (show ¬ (141 = 141 ∧ 3 = 7) by omega), hv818]
              have hz821 : σ819 141 4 = σ 141 4 := by rw [eσ819, dk_up_n (show ¬ (141 = 141 ∧ 4 = 7) by omega), eσ817, dk_up_n (show ¬ (141 = 141 ∧ 4 = 6) by omega), eσ815, dk_up_n (show ¬ (141 = 141 ∧ 4 = 8) by omega), eσ429, dk_up_n (show ¬ (141 = 141 ∧ 4 = 7) by omega), hF8 141 4 (by omega), eσ2, dk_up_n (show ¬ (141 = 141 ∧ 4 = 6) by omega)]
              have hz822 : σ819 141 6 = v4 := by rw [eσ819, dk_up_n (show ¬ (141 = 141 ∧ 6 = 7) by omega), eσ817, dk_up_s]
              have hz823 : σ819 141 7 = v4 := by rw [eσ819, dk_up_s]
              have hz824 : σ819 141 8 = 0 := by rw [eσ819, dk_up_n (show ¬ (141 = 141 ∧ 8 = 7) by omega), eσ817, dk_up_n (show ¬ (141 = 141 ∧ 8 = 6) by omega), eσ815, dk_up_s]
              exact dk_vret (st := []) hE hR dX11_next_377 ⟨rfl, (fun k_ j_ h_ => by rw [eσ819, dk_up_n (show ¬ (k_ = 141 ∧ j_ = 7) from fun q_ => h_ (Or.inr (Or.inl (q_)))), eσ817, dk_up_n (show ¬ (k_ = 141 ∧ j_ = 6) from fun q_ => h_ (Or.inl (q_))), eσ815, dk_up_n (show ¬ (k_ = 141 ∧ j_ = 8) from fun q_ => h_ (Or.inr (Or.inr (Or.inl (q_))))), eσ429, dk_up_n (show ¬ (k_ = 141 ∧ j_ = 7) from fun q_ => h_ (Or.inr (Or.inl (q_)))), hF8 k_ j_ (fun w_ => h_ (Or.inl (w_))), eσ2, dk_up_n (show ¬ (k_ = 141 ∧ j_ = 6) from fun q_ => h_ (Or.inl (q_)))]), ⟨NY_of (by omega) (by omega) (by omega), by omega⟩⟩
          · skip
            refine dk_aload_n (pc' := 46) hE dX11_next_45 rfl rfl rfl ?_
            refine dk_dup (pc' := 47) hE dX11_next_46 (show (4 : Nat) ≠ 3 by decide) rfl ?_
            refine gf_11_6 (pc' := 50) hE fl_X11_215 dX11_next_47 is_141 rfl (fun v825 hv825 htv825 hbv825 => ?_)
            have hq825 : v3 = v825 := (show v825 = v3 by rw [hv825, hv418]).symm
            subst hq825
            clear htv825 hbv825
            refine dk_iconst (pc' := 51) hE dX11_next_50 (by decide) rfl ?_
            obtain ⟨v826, hv826⟩ : ∃ z : Int, z = v3 + 1 := ⟨_, rfl⟩
            refine dk_iadd (pc' := 52) hE dX11_next_51 hv826.symm (by omega) rfl ?_
            refine pf_11_6 (pc' := 55) hE fl_X11_215 dX11_next_52 is_141 (by omega) rfl (fun σ827 eσ827 => ?_)
            refine dk_goto (tgt := 8) hE dX11_next_55 (by decide) ?_
            have hz827_141_6 : σ827 141 6 = v826 := by rw [eσ827, dk_up_s]
            have hz828_141_3 := (show σ827 141 3 = _ by rw [eσ827, dk_up_n (show ¬ (141 = 141 ∧ 3 = 6) by omega)])
            exact ih8 σ827 (by omega) (fun k_ j_ h_ => by rw [eσ827, dk_up_n (show ¬ (k_ = 141 ∧ j_ = 6) from fun q_ => h_ (q_)), hF8 k_ j_ (fun w_ => h_ (w_))]) (by omega) (by omega)
  have hz830 : σ2 141 6 = v1 := by rw [eσ2, dk_up_s]
  have hz831 : σ2 141 6 = v1 := by rw [eσ2, dk_up_s]
  have hz832 : σ2 141 3 = σ 141 3 := by rw [eσ2, dk_up_n (show ¬ (141 = 141 ∧ 3 = 6) by omega)]
  have hz833 : σ2 141 6 = v1 := by rw [eσ2, dk_up_s]
  have hz833_141_6 : σ2 141 6 = v1 := by rw [eσ2, dk_up_s]
  exact lp8 _ σ2 (Nat.lt_succ_self _) (fun k_ j_ h_ => rfl) (by omega) (by omega)
