theorem fpw33_2804642510 : ∀ k_ j_ : Int, mFP k_ j_ → ¬ ((k_ = 141 ∧ j_ = 55) ∨ (k_ = 141 ∧ j_ = 56) ∨ (k_ = 141 ∧ j_ = 57) ∨ (k_ = 141 ∧ j_ = 58) ∨ (k_ = 141 ∧ j_ = 59) ∨ (k_ = 141 ∧ j_ = 60) ∨ (k_ = 141 ∧ j_ = 61)) := by intro k_ j_ h; omega
theorem fpw33_549955260 : ∀ k_ j_ : Int, mFP k_ j_ → ¬ ((k_ = 141 ∧ j_ = 55) ∨ (k_ = 141 ∧ j_ = 56) ∨ (k_ = 141 ∧ j_ = 57) ∨ (k_ = 141 ∧ j_ = 58) ∨ (k_ = 141 ∧ j_ = 59) ∨ (k_ = 141 ∧ j_ = 60) ∨ (k_ = 141 ∧ j_ = 61) ∨ k_ = 168 ∨ (k_ = 141 ∧ j_ = 70) ∨ (176 ≤ k_ ∧ k_ ≤ 177) ∨ k_ = 180) := by intro k_ j_ h; omega
theorem fpw33_1480854822 : ∀ k_ j_ : Int, mFP k_ j_ → ¬ ((k_ = 141 ∧ j_ = 55) ∨ (k_ = 141 ∧ j_ = 56) ∨ (k_ = 141 ∧ j_ = 57) ∨ (k_ = 141 ∧ j_ = 58) ∨ (k_ = 141 ∧ j_ = 59) ∨ (k_ = 141 ∧ j_ = 60) ∨ (k_ = 141 ∧ j_ = 61) ∨ k_ = 168 ∨ (k_ = 141 ∧ j_ = 70) ∨ (176 ≤ k_ ∧ k_ ≤ 177) ∨ k_ = 180 ∨ (k_ = 141 ∧ j_ = 71) ∨ (k_ = 141 ∧ j_ = 72) ∨ (181 ≤ k_ ∧ k_ ≤ 183) ∨ k_ = 178) := by intro k_ j_ h; omega
theorem fpw33_1202096809 : ∀ k_ j_ : Int, mFP k_ j_ → ¬ (k_ = 168) := by intro k_ j_ h; omega
set_option maxHeartbeats 4000000 in
set_option maxRecDepth 20000 in
theorem ct_X11_hasCast (l : Launch) (G : dkG) (hGd : dk_Gd G) (w d k : Int) : dk_Ct l G dk_Ty yX11_hasCast cX11_hasCast 4 (some .boolean) 8 190 190 (fun av σ => av = [(4, 141), (0, w), (0, d), (0, k)] ∧ (MI σ) ∧ (0 ≤ w ∧ w ≤ 3)) (fun _ σ r_ σ' => ∃ z : Int, r_ = some (0, z) ∧ (∀ k_ j_ : Int, ¬ ((k_ = 141 ∧ j_ = 55) ∨ (k_ = 141 ∧ j_ = 56) ∨ (k_ = 141 ∧ j_ = 57) ∨ (k_ = 141 ∧ j_ = 58) ∨ (k_ = 141 ∧ j_ = 59) ∨ (k_ = 141 ∧ j_ = 60) ∨ (k_ = 141 ∧ j_ = 61) ∨ k_ = 168 ∨ (k_ = 141 ∧ j_ = 70) ∨ (176 ≤ k_ ∧ k_ ≤ 177) ∨ k_ = 180 ∨ (k_ = 141 ∧ j_ = 71) ∨ (k_ = 141 ∧ j_ = 72) ∨ (181 ≤ k_ ∧ k_ ≤ 183) ∨ k_ = 178) → σ' k_ j_ = σ k_ j_) ∧ (0 ≤ z ∧ z ≤ 1)) := by
  refine dk_enter hGd (by decide) (fun av σ hpre hok => ?_)
  obtain ⟨rfl, hG, hw⟩ := hpre
  refine ⟨Nat.le_of_ble_eq_true rfl, fun E hE hR _ => ?_⟩
  have hi_w : dk_i32 w := dk_oki (hok _ (by simp))
  have hi_d : dk_i32 d := dk_oki (hok _ (by simp))
  have hi_k : dk_i32 k := dk_oki (hok _ (by simp))
  show dk_PJ E 0 [(4, 141), (0, w), (0, d), (0, k)] [] 190 σ
  refine dk_aload_n (pc' := 1) hE dX11_hasCast_0 rfl rfl rfl ?_
  refine dk_iload_n (pc' := 2) hE dX11_hasCast_1 rfl rfl rfl ?_
  refine dk_iload_n (pc' := 3) hE dX11_hasCast_2 rfl rfl rfl ?_
  refine dk_iload_n (pc' := 4) hE dX11_hasCast_3 rfl rfl rfl ?_
  refine dk_cV (pc' := 7) (as := [(0, w), (0, d), (0, k)]) hE lk_X11_494 (ct_X11_weigh l G hGd w d k) dX11_hasCast_4 rfl is_141 rfl (by decide) (Nat.le_of_ble_eq_true rfl) ⟨rfl, hG, (by omega)⟩ rfl (fun r2 σ1 hr2 hor2 => ?_)
  obtain ⟨rfl, hfσ1, hpr2⟩ := hr2
  refine dk_aload_n (pc' := 8) hE dX11_hasCast_7 rfl rfl rfl ?_
  refine dk_iconst (pc' := 9) hE dX11_hasCast_8 (by decide) rfl ?_
  refine dk_iconst (pc' := 10) hE dX11_hasCast_9 (by decide) rfl ?_
  refine dk_aload_n (pc' := 11) hE dX11_hasCast_10 rfl rfl rfl ?_
  refine gf_11_64 (pc' := 14) (w := 178) hE fl_X11_125 dX11_hasCast_11 is_141 rfl rfl ?_
  have gi3 : MI σ1 := MI_fr hG (fun k_ j_ h_ => by rw [hfσ1 k_ j_ (fpw33_549955260 k_ j_ h_)])
  refine dk_cV (pc' := 17) (as := [(0, (-1)), (0, 0), (4, 178)]) hE lk_X11_497 (ct_X11_seekCast_178 l G hGd (-1) 0 (σ1 141 70)) dX11_hasCast_14 rfl is_141 rfl (by decide) (Nat.le_of_ble_eq_true rfl) ⟨rfl, gi3, (by omega)⟩ rfl (fun r5 σ4 hr5 hor5 => ?_)
  obtain ⟨v6, rfl, hfσ4, hpr5⟩ := hr5
  exact dk_zret (st := []) hE hR dX11_hasCast_17 (by omega) ⟨_, rfl, (fun k_ j_ h_ => by rw [hfσ4 k_ j_ (fun w_ => h_ (w_.elim (fun x0_ => Or.inr (Or.inr (Or.inr (Or.inr (Or.inr (Or.inr (Or.inr (Or.inr (Or.inr (Or.inr (Or.inr (Or.inl (x0_))))))))))))) (fun y0_ => y0_.elim (fun x1_ => Or.inr (Or.inr (Or.inr (Or.inr (Or.inr (Or.inr (Or.inr (Or.inr (Or.inr (Or.inr (Or.inr (Or.inr (Or.inl (x1_)))))))))))))) (fun y1_ => y1_.elim (fun x2_ => Or.inr (Or.inr (Or.inr (Or.inr (Or.inr (Or.inr (Or.inr (Or.inr (Or.inr (Or.inr (Or.inr (Or.inr (Or.inr (Or.inl (x2_))))))))))))))) (fun y2_ => Or.inr (Or.inr (Or.inr (Or.inr (Or.inr (Or.inr (Or.inr (Or.inr (Or.inr (Or.inr (Or.inr (Or.inr (Or.inr (Or.inr (y2_))))))))))))))))))), hfσ1 k_ j_ (fun w_ => h_ (w_.elim (fun x0_ => Or.inl (x0_)) (fun y0_ => y0_.elim (fun x1_ => Or.inr (Or.inl (x1_))) (fun y1_ => y1_.elim (fun x2_ => Or.inr (Or.inr (Or.inl (x2_)))) (fun y2_ => y2_.elim (fun x3_ => Or.inr (Or.inr (Or.inr (Or.inl (x3_))))) (fun y3_ => y3_.elim (fun x4_ => Or.inr (Or.inr (Or.inr (Or.inr (Or.inl (x4_)))))) (fun y4_ => y4_.elim (fun x5_ => Or.inr (Or.inr (Or.inr (Or.inr (Or.inr (Or.inl (x5_))))))) (fun y5_ => y5_.elim (fun x6_ => Or.inr (Or.inr (Or.inr (Or.inr (Or.inr (Or.inr (Or.inl (x6_)))))))) (fun y6_ => y6_.elim (fun x7_ => Or.inr (Or.inr (Or.inr (Or.inr (Or.inr (Or.inr (Or.inr (Or.inl (x7_))))))))) (fun y7_ => y7_.elim (fun x8_ => Or.inr (Or.inr (Or.inr (Or.inr (Or.inr (Or.inr (Or.inr (Or.inr (Or.inl (x8_)))))))))) (fun y8_ => y8_.elim (fun x9_ => Or.inr (Or.inr (Or.inr (Or.inr (Or.inr (Or.inr (Or.inr (Or.inr (Or.inr (Or.inl (x9_))))))))))) (fun y9_ => Or.inr (Or.inr (Or.inr (Or.inr (Or.inr (Or.inr (Or.inr (Or.inr (Or.inr (Or.inr (Or.inl (y9_)))))))))))))))))))))))]), by omega⟩
set_option maxHeartbeats 4000000 in
set_option maxRecDepth 20000 in
theorem ct_X11_cost (l : Launch) (G : dkG) (hGd : dk_Gd G) (w d k : Int) : dk_Ct l G dk_Ty yX11_cost cX11_cost 4 (some .long) 9 190 190 (fun av σ => av = [(4, 141), (0, w), (0, d), (0, k)] ∧ (MI σ)) (fun _ σ r_ σ' => ∃ z : Int, r_ = some (3, z) ∧ (∀ k_ j_ : Int, ¬ ((k_ = 141 ∧ j_ = 55) ∨ (k_ = 141 ∧ j_ = 56) ∨ (k_ = 141 ∧ j_ = 57) ∨ (k_ = 141 ∧ j_ = 58) ∨ (k_ = 141 ∧ j_ = 59) ∨ (k_ = 141 ∧ j_ = 60) ∨ (k_ = 141 ∧ j_ = 61) ∨ k_ = 168 ∨ (k_ = 141 ∧ j_ = 70) ∨ (176 ≤ k_ ∧ k_ ≤ 177) ∨ k_ = 180 ∨ (k_ = 141 ∧ j_ = 71) ∨ (k_ = 141 ∧ j_ = 72) ∨ (181 ≤ k_ ∧ k_ ≤ 183) ∨ k_ = 178) → σ' k_ j_ = σ k_ j_) ∧ (True)) := by
  refine dk_enter hGd (by decide) (fun av σ hpre hok => ?_)
  obtain ⟨rfl, hG⟩ := hpre
  refine ⟨Nat.le_of_ble_eq_true rfl, fun E hE hR _ => ?_⟩
  have hi_w : dk_i32 w := dk_oki (hok _ (by simp))
  have hi_d : dk_i32 d := dk_oki (hok _ (by simp))
  have hi_k : dk_i32 k := dk_oki (hok _ (by simp))
  show dk_PJ E 0 [(4, 141), (0, w), (0, d), (0, k)] [] 190 σ
  refine dk_aload_n (pc' := 1) hE dX11_cost_0 rfl rfl rfl ?_
  refine dk_iload_n (pc' := 2) hE dX11_cost_1 rfl rfl rfl ?_
  refine dk_cV (pc' := 5) (as := [(0, w)]) hE lk_X11_359 (ct_X11_isWork l G hGd w) dX11_cost_2 rfl is_141 rfl (by decide) (Nat.le_of_ble_eq_true rfl) rfl rfl (fun r2 σ1 hr2 hor2 => ?_)
  obtain ⟨v3, rfl, hfσ1, hpr2⟩ := hr2
  have hsσ1 : σ = σ1 := (funext (fun k => funext (fun j => hfσ1 k j not_false))).symm
  subst hsσ1
  rcases hpr2 with ⟨rfl, hpr2⟩ | rfl
  · skip
    refine dk_if_eq (tgt := 32) (pc' := 8) hE dX11_cost_5 (by decide) rfl (fun hc4 => absurd hc4 (by decide)) (fun hc4 => ?_)
    refine dk_iload_n (pc' := 9) hE dX11_cost_8 rfl rfl rfl ?_
    refine dk_cS (pc' := 12) (as := [(0, d)]) hE lk_X11_371 (ct_X11_isDay l G hGd d) dX11_cost_9 rfl rfl (by decide) (Nat.le_of_ble_eq_true rfl) rfl rfl (fun r6 σ5 hr6 hor6 => ?_)
    obtain ⟨v7, rfl, hfσ5, hpr6⟩ := hr6
    have hsσ5 : σ = σ5 := (funext (fun k => funext (fun j => hfσ5 k j not_false))).symm
    subst hsσ5
    rcases hpr6 with ⟨rfl, hpr6⟩ | ⟨rfl, hpr6⟩
    · skip
      refine dk_if_eq (tgt := 32) (pc' := 15) hE dX11_cost_12 (by decide) rfl (fun hc8 => absurd hc8 (by decide)) (fun hc8 => ?_)
      refine dk_aload_n (pc' := 16) hE dX11_cost_15 rfl rfl rfl ?_
      refine dk_iload_n (pc' := 17) hE dX11_cost_16 rfl rfl rfl ?_
      refine dk_iload_n (pc' := 18) hE dX11_cost_17 rfl rfl rfl ?_
      refine dk_iload_n (pc' := 19) hE dX11_cost_18 rfl rfl rfl ?_
      refine dk_cV (pc' := 22) (as := [(0, w), (0, d), (0, k)]) hE lk_X11_501 (ct_X11_hasCast l G hGd w d k) dX11_cost_19 rfl is_141 rfl (by decide) (Nat.le_of_ble_eq_true rfl) ⟨rfl, hG, (by omega)⟩ rfl (fun r10 σ9 hr10 hor10 => ?_)
      obtain ⟨v11, rfl, hfσ9, hpr10⟩ := hr10
      refine dk_if_eq (tgt := 32) (pc' := 25) hE dX11_cost_22 (by decide) rfl (fun hc12 => ?_) (fun hc12 => ?_)
      · skip
        refine dk_ldc2 (pc' := 35) hE dX11_cost_32 cs_X11_504 (by decide) rfl ?_
        exact dk_lret (st := []) hE hR dX11_cost_35 ⟨_, rfl, (fun k_ j_ h_ => by rw [hfσ9 k_ j_ (fun w_ => h_ (w_.elim (fun x0_ => Or.inl (x0_)) (fun y0_ => y0_.elim (fun x1_ => Or.inr (Or.inl (x1_))) (fun y1_ => y1_.elim (fun x2_ => Or.inr (Or.inr (Or.inl (x2_)))) (fun y2_ => y2_.elim (fun x3_ => Or.inr (Or.inr (Or.inr (Or.inl (x3_))))) (fun y3_ => y3_.elim (fun x4_ => Or.inr (Or.inr (Or.inr (Or.inr (Or.inl (x4_)))))) (fun y4_ => y4_.elim (fun x5_ => Or.inr (Or.inr (Or.inr (Or.inr (Or.inr (Or.inl (x5_))))))) (fun y5_ => y5_.elim (fun x6_ => Or.inr (Or.inr (Or.inr (Or.inr (Or.inr (Or.inr (Or.inl (x6_)))))))) (fun y6_ => y6_.elim (fun x7_ => Or.inr (Or.inr (Or.inr (Or.inr (Or.inr (Or.inr (Or.inr (Or.inl (x7_))))))))) (fun y7_ => y7_.elim (fun x8_ => Or.inr (Or.inr (Or.inr (Or.inr (Or.inr (Or.inr (Or.inr (Or.inr (Or.inl (x8_)))))))))) (fun y8_ => y8_.elim (fun x9_ => Or.inr (Or.inr (Or.inr (Or.inr (Or.inr (Or.inr (Or.inr (Or.inr (Or.inr (Or.inl (x9_))))))))))) (fun y9_ => y9_.elim (fun x10_ => Or.inr (Or.inr (Or.inr (Or.inr (Or.inr (Or.inr (Or.inr (Or.inr (Or.inr (Or.inr (Or.inl (x10_)))))))))))) (fun y10_ => y10_.elim (fun x11_ => Or.inr (Or.inr (Or.inr (Or.inr (Or.inr (Or.inr (Or.inr (Or.inr (Or.inr (Or.inr (Or.inr (Or.inl (x11_))))))))))))) (fun y11_ => y11_.elim (fun x12_ => Or.inr (Or.inr (Or.inr (Or.inr (Or.inr (Or.inr (Or.inr (Or.inr (Or.inr (Or.inr (Or.inr (Or.inr (Or.inl (x12_)))))))))))))) (fun y12_ => y12_.elim (fun x13_ => Or.inr (Or.inr (Or.inr (Or.inr (Or.inr (Or.inr (Or.inr (Or.inr (Or.inr (Or.inr (Or.inr (Or.inr (Or.inr (Or.inl (x13_))))))))))))))) (fun y13_ => Or.inr (Or.inr (Or.inr (Or.inr (Or.inr (Or.inr (Or.inr (Or.inr (Or.inr (Or.inr (Or.inr (Or.inr (Or.inr (Or.inr (y13_))))))))))))))))))))))))))))))]), trivial⟩
      · skip
        refine dk_aload_n (pc' := 26) hE dX11_cost_25 rfl rfl rfl ?_
        refine gf_11_72 (pc' := 29) hE fl_X11_488 dX11_cost_26 is_141 rfl (fun v13 hv13 htv13 hbv13 => ?_)
        refine dk_goto (tgt := 35) hE dX11_cost_29 (by decide) ?_
        exact dk_lret (st := []) hE hR dX11_cost_35 ⟨_, rfl, (fun k_ j_ h_ => by rw [hfσ9 k_ j_ (fun w_ => h_ (w_.elim (fun x0_ => Or.inl (x0_)) (fun y0_ => y0_.elim (fun x1_ => Or.inr (Or.inl (x1_))) (fun y1_ => y1_.elim (fun x2_ => Or.inr (Or.inr (Or.inl (x2_)))) (fun y2_ => y2_.elim (fun x3_ => Or.inr (Or.inr (Or.inr (Or.inl (x3_))))) (fun y3_ => y3_.elim (fun x4_ => Or.inr (Or.inr (Or.inr (Or.inr (Or.inl (x4_)))))) (fun y4_ => y4_.elim (fun x5_ => Or.inr (Or.inr (Or.inr (Or.inr (Or.inr (Or.inl (x5_))))))) (fun y5_ => y5_.elim (fun x6_ => Or.inr (Or.inr (Or.inr (Or.inr (Or.inr (Or.inr (Or.inl (x6_)))))))) (fun y6_ => y6_.elim (fun x7_ => Or.inr (Or.inr (Or.inr (Or.inr (Or.inr (Or.inr (Or.inr (Or.inl (x7_))))))))) (fun y7_ => y7_.elim (fun x8_ => Or.inr (Or.inr (Or.inr (Or.inr (Or.inr (Or.inr (Or.inr (Or.inr (Or.inl (x8_)))))))))) (fun y8_ => y8_.elim (fun x9_ => Or.inr (Or.inr (Or.inr (Or.inr (Or.inr (Or.inr (Or.inr (Or.inr (Or.inr (Or.inl (x9_))))))))))) (fun y9_ => y9_.elim (fun x10_ => Or.inr (Or.inr (Or.inr (Or.inr (Or.inr (Or.inr (Or.inr (Or.inr (Or.inr (Or.inr (Or.inl (x10_)))))))))))) (fun y10_ => y10_.elim (fun x11_ => Or.inr (Or.inr (Or.inr (Or.inr (Or.inr (Or.inr (Or.inr (Or.inr (Or.inr (Or.inr (Or.inr (Or.inl (x11_))))))))))))) (fun y11_ => y11_.elim (fun x12_ => Or.inr (Or.inr (Or.inr (Or.inr (Or.inr (Or.inr (Or.inr (Or.inr (Or.inr (Or.inr (Or.inr (Or.inr (Or.inl (x12_)))))))))))))) (fun y12_ => y12_.elim (fun x13_ => Or.inr (Or.inr (Or.inr (Or.inr (Or.inr (Or.inr (Or.inr (Or.inr (Or.inr (Or.inr (Or.inr (Or.inr (Or.inr (Or.inl (x13_))))))))))))))) (fun y13_ => Or.inr (Or.inr (Or.inr (Or.inr (Or.inr (Or.inr (Or.inr (Or.inr (Or.inr (Or.inr (Or.inr (Or.inr (Or.inr (Or.inr (y13_))))))))))))))))))))))))))))))]), trivial⟩
    · skip
      refine dk_if_eq (tgt := 32) (pc' := 15) hE dX11_cost_12 (by decide) rfl (fun hc14 => ?_) (fun hc14 => absurd hc14 (by decide))
      refine dk_ldc2 (pc' := 35) hE dX11_cost_32 cs_X11_504 (by decide) rfl ?_
      exact dk_lret (st := []) hE hR dX11_cost_35 ⟨_, rfl, (fun k_ j_ h_ => rfl), trivial⟩
  · skip
    refine dk_if_eq (tgt := 32) (pc' := 8) hE dX11_cost_5 (by decide) rfl (fun hc15 => ?_) (fun hc15 => absurd hc15 (by decide))
    refine dk_ldc2 (pc' := 35) hE dX11_cost_32 cs_X11_504 (by decide) rfl ?_
    exact dk_lret (st := []) hE hR dX11_cost_35 ⟨_, rfl, (fun k_ j_ h_ => rfl), trivial⟩
set_option maxHeartbeats 4000000 in
set_option maxRecDepth 20000 in
theorem ct_X11_cast (l : Launch) (G : dkG) (hGd : dk_Gd G) (p d k : Int) : dk_Ct l G dk_Ty yX11_cast cX11_cast 4 (some .int) 9 190 190 (fun av σ => av = [(4, 141), (0, p), (0, d), (0, k)] ∧ (MI σ)) (fun _ σ r_ σ' => ∃ z : Int, r_ = some (0, z) ∧ (∀ k_ j_ : Int, ¬ ((k_ = 141 ∧ j_ = 55) ∨ (k_ = 141 ∧ j_ = 56) ∨ (k_ = 141 ∧ j_ = 57) ∨ (k_ = 141 ∧ j_ = 58) ∨ (k_ = 141 ∧ j_ = 59) ∨ (k_ = 141 ∧ j_ = 60) ∨ (k_ = 141 ∧ j_ = 61) ∨ k_ = 168 ∨ (k_ = 141 ∧ j_ = 70) ∨ (176 ≤ k_ ∧ k_ ≤ 177) ∨ k_ = 180 ∨ (k_ = 141 ∧ j_ = 71) ∨ (k_ = 141 ∧ j_ = 72) ∨ (181 ≤ k_ ∧ k_ ≤ 183) ∨ k_ = 178) → σ' k_ j_ = σ k_ j_) ∧ (True)) := by
  refine dk_enter hGd (by decide) (fun av σ hpre hok => ?_)
  obtain ⟨rfl, hG⟩ := hpre
  refine ⟨Nat.le_of_ble_eq_true rfl, fun E hE hR _ => ?_⟩
  have hi_p : dk_i32 p := dk_oki (hok _ (by simp))
  have hi_d : dk_i32 d := dk_oki (hok _ (by simp))
  have hi_k : dk_i32 k := dk_oki (hok _ (by simp))
  show dk_PJ E 0 [(4, 141), (0, p), (0, d), (0, k)] [] 190 σ
  refine dk_aload_n (pc' := 1) hE dX11_cast_0 rfl rfl rfl ?_
  refine dk_iload_n (pc' := 2) hE dX11_cast_1 rfl rfl rfl ?_
  refine dk_cV (pc' := 5) (as := [(0, p)]) hE lk_X11_333 (ct_X11_isPart l G hGd p) dX11_cast_2 rfl is_141 rfl (by decide) (Nat.le_of_ble_eq_true rfl) rfl rfl (fun r2 σ1 hr2 hor2 => ?_)
  obtain ⟨v3, rfl, hfσ1, hpr2⟩ := hr2
  have hsσ1 : σ = σ1 := (funext (fun k => funext (fun j => hfσ1 k j not_false))).symm
  subst hsσ1
  rcases hpr2 with ⟨rfl, hpr2⟩ | rfl
  · skip
    refine dk_if_eq (tgt := 38) (pc' := 8) hE dX11_cast_5 (by decide) rfl (fun hc4 => absurd hc4 (by decide)) (fun hc4 => ?_)
    refine dk_iload_n (pc' := 9) hE dX11_cast_8 rfl rfl rfl ?_
    refine dk_cS (pc' := 12) (as := [(0, d)]) hE lk_X11_371 (ct_X11_isDay l G hGd d) dX11_cast_9 rfl rfl (by decide) (Nat.le_of_ble_eq_true rfl) rfl rfl (fun r6 σ5 hr6 hor6 => ?_)
    obtain ⟨v7, rfl, hfσ5, hpr6⟩ := hr6
    have hsσ5 : σ = σ5 := (funext (fun k => funext (fun j => hfσ5 k j not_false))).symm
    subst hsσ5
    rcases hpr6 with ⟨rfl, hpr6⟩ | ⟨rfl, hpr6⟩
    · skip
      refine dk_if_eq (tgt := 38) (pc' := 15) hE dX11_cast_12 (by decide) rfl (fun hc8 => absurd hc8 (by decide)) (fun hc8 => ?_)
      refine dk_aload_n (pc' := 16) hE dX11_cast_15 rfl rfl rfl ?_
      refine dk_aload_n (pc' := 17) hE dX11_cast_16 rfl rfl rfl ?_
      refine dk_iload_n (pc' := 18) hE dX11_cast_17 rfl rfl rfl ?_
      refine dk_cV (pc' := 21) (as := [(0, p)]) hE lk_X11_336 (ct_X11_workOf l G hGd p) dX11_cast_18 rfl is_141 rfl (by decide) (Nat.le_of_ble_eq_true rfl) ⟨rfl, (by omega)⟩ rfl (fun r10 σ9 hr10 hor10 => ?_)
      obtain ⟨v11, rfl, hfσ9, hpr10⟩ := hr10
      have hsσ9 : σ = σ9 := (funext (fun k => funext (fun j => hfσ9 k j not_false))).symm
      subst hsσ9
      refine dk_iload_n (pc' := 22) hE dX11_cast_21 rfl rfl rfl ?_
      refine dk_iload_n (pc' := 23) hE dX11_cast_22 rfl rfl rfl ?_
      refine dk_cV (pc' := 26) (as := [(0, v11), (0, d), (0, k)]) hE lk_X11_501 (ct_X11_hasCast l G hGd v11 d k) dX11_cast_23 rfl is_141 rfl (by decide) (Nat.le_of_ble_eq_true rfl) ⟨rfl, hG, (by omega)⟩ rfl (fun r13 σ12 hr13 hor13 => ?_)
      obtain ⟨v14, rfl, hfσ12, hpr13⟩ := hr13
      refine dk_if_eq (tgt := 38) (pc' := 29) hE dX11_cast_26 (by decide) rfl (fun hc15 => ?_) (fun hc15 => ?_)
      · skip
        refine dk_iconst (pc' := 39) hE dX11_cast_38 (by decide) rfl ?_
        exact dk_iret (st := []) hE hR dX11_cast_39 ⟨_, rfl, (fun k_ j_ h_ => by rw [hfσ12 k_ j_ (fun w_ => h_ (w_.elim (fun x0_ => Or.inl (x0_)) (fun y0_ => y0_.elim (fun x1_ => Or.inr (Or.inl (x1_))) (fun y1_ => y1_.elim (fun x2_ => Or.inr (Or.inr (Or.inl (x2_)))) (fun y2_ => y2_.elim (fun x3_ => Or.inr (Or.inr (Or.inr (Or.inl (x3_))))) (fun y3_ => y3_.elim (fun x4_ => Or.inr (Or.inr (Or.inr (Or.inr (Or.inl (x4_)))))) (fun y4_ => y4_.elim (fun x5_ => Or.inr (Or.inr (Or.inr (Or.inr (Or.inr (Or.inl (x5_))))))) (fun y5_ => y5_.elim (fun x6_ => Or.inr (Or.inr (Or.inr (Or.inr (Or.inr (Or.inr (Or.inl (x6_)))))))) (fun y6_ => y6_.elim (fun x7_ => Or.inr (Or.inr (Or.inr (Or.inr (Or.inr (Or.inr (Or.inr (Or.inl (x7_))))))))) (fun y7_ => y7_.elim (fun x8_ => Or.inr (Or.inr (Or.inr (Or.inr (Or.inr (Or.inr (Or.inr (Or.inr (Or.inl (x8_)))))))))) (fun y8_ => y8_.elim (fun x9_ => Or.inr (Or.inr (Or.inr (Or.inr (Or.inr (Or.inr (Or.inr (Or.inr (Or.inr (Or.inl (x9_))))))))))) (fun y9_ => y9_.elim (fun x10_ => Or.inr (Or.inr (Or.inr (Or.inr (Or.inr (Or.inr (Or.inr (Or.inr (Or.inr (Or.inr (Or.inl (x10_)))))))))))) (fun y10_ => y10_.elim (fun x11_ => Or.inr (Or.inr (Or.inr (Or.inr (Or.inr (Or.inr (Or.inr (Or.inr (Or.inr (Or.inr (Or.inr (Or.inl (x11_))))))))))))) (fun y11_ => y11_.elim (fun x12_ => Or.inr (Or.inr (Or.inr (Or.inr (Or.inr (Or.inr (Or.inr (Or.inr (Or.inr (Or.inr (Or.inr (Or.inr (Or.inl (x12_)))))))))))))) (fun y12_ => y12_.elim (fun x13_ => Or.inr (Or.inr (Or.inr (Or.inr (Or.inr (Or.inr (Or.inr (Or.inr (Or.inr (Or.inr (Or.inr (Or.inr (Or.inr (Or.inl (x13_))))))))))))))) (fun y13_ => Or.inr (Or.inr (Or.inr (Or.inr (Or.inr (Or.inr (Or.inr (Or.inr (Or.inr (Or.inr (Or.inr (Or.inr (Or.inr (Or.inr (y13_))))))))))))))))))))))))))))))]), trivial⟩
      · skip
        refine dk_aload_n (pc' := 30) hE dX11_cast_29 rfl rfl rfl ?_
        refine gf_11_64 (pc' := 33) (w := 178) hE fl_X11_125 dX11_cast_30 is_141 rfl rfl ?_
        refine dk_iload_n (pc' := 34) hE dX11_cast_33 rfl rfl rfl ?_
        refine ga_106 (pc' := 35) hE dX11_cast_34 is_178 (by omega) rfl (fun v16 hv16 htv16 hbv16 => ?_)
        refine dk_goto (tgt := 39) hE dX11_cast_35 (by decide) ?_
        exact dk_iret (st := []) hE hR dX11_cast_39 ⟨_, rfl, (fun k_ j_ h_ => by rw [hfσ12 k_ j_ (fun w_ => h_ (w_.elim (fun x0_ => Or.inl (x0_)) (fun y0_ => y0_.elim (fun x1_ => Or.inr (Or.inl (x1_))) (fun y1_ => y1_.elim (fun x2_ => Or.inr (Or.inr (Or.inl (x2_)))) (fun y2_ => y2_.elim (fun x3_ => Or.inr (Or.inr (Or.inr (Or.inl (x3_))))) (fun y3_ => y3_.elim (fun x4_ => Or.inr (Or.inr (Or.inr (Or.inr (Or.inl (x4_)))))) (fun y4_ => y4_.elim (fun x5_ => Or.inr (Or.inr (Or.inr (Or.inr (Or.inr (Or.inl (x5_))))))) (fun y5_ => y5_.elim (fun x6_ => Or.inr (Or.inr (Or.inr (Or.inr (Or.inr (Or.inr (Or.inl (x6_)))))))) (fun y6_ => y6_.elim (fun x7_ => Or.inr (Or.inr (Or.inr (Or.inr (Or.inr (Or.inr (Or.inr (Or.inl (x7_))))))))) (fun y7_ => y7_.elim (fun x8_ => Or.inr (Or.inr (Or.inr (Or.inr (Or.inr (Or.inr (Or.inr (Or.inr (Or.inl (x8_)))))))))) (fun y8_ => y8_.elim (fun x9_ => Or.inr (Or.inr (Or.inr (Or.inr (Or.inr (Or.inr (Or.inr (Or.inr (Or.inr (Or.inl (x9_))))))))))) (fun y9_ => y9_.elim (fun x10_ => Or.inr (Or.inr (Or.inr (Or.inr (Or.inr (Or.inr (Or.inr (Or.inr (Or.inr (Or.inr (Or.inl (x10_)))))))))))) (fun y10_ => y10_.elim (fun x11_ => Or.inr (Or.inr (Or.inr (Or.inr (Or.inr (Or.inr (Or.inr (Or.inr (Or.inr (Or.inr (Or.inr (Or.inl (x11_))))))))))))) (fun y11_ => y11_.elim (fun x12_ => Or.inr (Or.inr (Or.inr (Or.inr (Or.inr (Or.inr (Or.inr (Or.inr (Or.inr (Or.inr (Or.inr (Or.inr (Or.inl (x12_)))))))))))))) (fun y12_ => y12_.elim (fun x13_ => Or.inr (Or.inr (Or.inr (Or.inr (Or.inr (Or.inr (Or.inr (Or.inr (Or.inr (Or.inr (Or.inr (Or.inr (Or.inr (Or.inl (x13_))))))))))))))) (fun y13_ => Or.inr (Or.inr (Or.inr (Or.inr (Or.inr (Or.inr (Or.inr (Or.inr (Or.inr (Or.inr (Or.inr (Or.inr (Or.inr (Or.inr (y13_))))))))))))))))))))))))))))))]), trivial⟩
    · skip
      refine dk_if_eq (tgt := 38) (pc' := 15) hE dX11_cast_12 (by decide) rfl (fun hc17 => ?_) (fun hc17 => absurd hc17 (by decide))
      refine dk_iconst (pc' := 39) hE dX11_cast_38 (by decide) rfl ?_
      exact dk_iret (st := []) hE hR dX11_cast_39 ⟨_, rfl, (fun k_ j_ h_ => rfl), trivial⟩
  · skip
    refine dk_if_eq (tgt := 38) (pc' := 8) hE dX11_cast_5 (by decide) rfl (fun hc18 => ?_) (fun hc18 => absurd hc18 (by decide))
    refine dk_iconst (pc' := 39) hE dX11_cast_38 (by decide) rfl ?_
    exact dk_iret (st := []) hE hR dX11_cast_39 ⟨_, rfl, (fun k_ j_ h_ => rfl), trivial⟩
set_option maxHeartbeats 4000000 in
set_option maxRecDepth 20000 in
theorem ct_X11_covers (l : Launch) (G : dkG) (hGd : dk_Gd G) (p d k : Int) : dk_Ct l G dk_Ty yX11_covers cX11_covers 9 (some .int) 9 190 190 (fun av σ => av = [(4, 141), (0, p), (0, d), (0, k)] ∧ (MI σ)) (fun _ σ r_ σ' => ∃ z : Int, r_ = some (0, z) ∧ (∀ k_ j_ : Int, ¬ ((k_ = 141 ∧ j_ = 55) ∨ (k_ = 141 ∧ j_ = 56) ∨ (k_ = 141 ∧ j_ = 57) ∨ (k_ = 141 ∧ j_ = 58) ∨ (k_ = 141 ∧ j_ = 59) ∨ (k_ = 141 ∧ j_ = 60) ∨ (k_ = 141 ∧ j_ = 61) ∨ k_ = 168 ∨ (k_ = 141 ∧ j_ = 70) ∨ (176 ≤ k_ ∧ k_ ≤ 177) ∨ k_ = 180 ∨ (k_ = 141 ∧ j_ = 71) ∨ (k_ = 141 ∧ j_ = 72) ∨ (181 ≤ k_ ∧ k_ ≤ 183) ∨ k_ = 178) → σ' k_ j_ = σ k_ j_) ∧ (True)) := by
  refine dk_enter hGd (by decide) (fun av σ hpre hok => ?_)
  obtain ⟨rfl, hG⟩ := hpre
  refine ⟨Nat.le_of_ble_eq_true rfl, fun E hE hR _ => ?_⟩
  have hi_p : dk_i32 p := dk_oki (hok _ (by simp))
  have hi_d : dk_i32 d := dk_oki (hok _ (by simp))
  have hi_k : dk_i32 k := dk_oki (hok _ (by simp))
  show dk_PJ E 0 [(4, 141), (0, p), (0, d), (0, k), (9, 0), (9, 0), (9, 0), (9, 0), (9, 0)] [] 190 σ
  refine dk_aload_n (pc' := 1) hE dX11_covers_0 rfl rfl rfl ?_
  refine dk_iload_n (pc' := 2) hE dX11_covers_1 rfl rfl rfl ?_
  refine dk_cV (pc' := 5) (as := [(0, p)]) hE lk_X11_333 (ct_X11_isPart l G hGd p) dX11_covers_2 rfl is_141 rfl (by decide) (Nat.le_of_ble_eq_true rfl) rfl rfl (fun r2 σ1 hr2 hor2 => ?_)
  obtain ⟨v3, rfl, hfσ1, hpr2⟩ := hr2
  have hsσ1 : σ = σ1 := (funext (fun k => funext (fun j => hfσ1 k j not_false))).symm
  subst hsσ1
  rcases hpr2 with ⟨rfl, hpr2⟩ | rfl
  · skip
    refine dk_if_eq (tgt := 15) (pc' := 8) hE dX11_covers_5 (by decide) rfl (fun hc4 => absurd hc4 (by decide)) (fun hc4 => ?_)
    refine dk_iload_n (pc' := 9) hE dX11_covers_8 rfl rfl rfl ?_
    refine dk_cS (pc' := 12) (as := [(0, d)]) hE lk_X11_371 (ct_X11_isDay l G hGd d) dX11_covers_9 rfl rfl (by decide) (Nat.le_of_ble_eq_true rfl) rfl rfl (fun r6 σ5 hr6 hor6 => ?_)
    obtain ⟨v7, rfl, hfσ5, hpr6⟩ := hr6
    have hsσ5 : σ = σ5 := (funext (fun k => funext (fun j => hfσ5 k j not_false))).symm
    subst hsσ5
    rcases hpr6 with ⟨rfl, hpr6⟩ | ⟨rfl, hpr6⟩
    · skip
      refine dk_if_ne (tgt := 17) (pc' := 15) hE dX11_covers_12 (by decide) rfl (fun hc8 => ?_) (fun hc8 => absurd hc8 (by decide))
      refine dk_aload_n (pc' := 18) hE dX11_covers_17 rfl rfl rfl ?_
      refine dk_aload_n (pc' := 19) hE dX11_covers_18 rfl rfl rfl ?_
      refine dk_iload_n (pc' := 20) hE dX11_covers_19 rfl rfl rfl ?_
      refine dk_cV (pc' := 23) (as := [(0, p)]) hE lk_X11_336 (ct_X11_workOf l G hGd p) dX11_covers_20 rfl is_141 rfl (by decide) (Nat.le_of_ble_eq_true rfl) ⟨rfl, (by omega)⟩ rfl (fun r10 σ9 hr10 hor10 => ?_)
      obtain ⟨v11, rfl, hfσ9, hpr10⟩ := hr10
      have hsσ9 : σ = σ9 := (funext (fun k => funext (fun j => hfσ9 k j not_false))).symm
      subst hsσ9
      refine dk_iload_n (pc' := 24) hE dX11_covers_23 rfl rfl rfl ?_
      refine dk_iload_n (pc' := 25) hE dX11_covers_24 rfl rfl rfl ?_
      refine dk_cV (pc' := 28) (as := [(0, v11), (0, d), (0, k)]) hE lk_X11_501 (ct_X11_hasCast l G hGd v11 d k) dX11_covers_25 rfl is_141 rfl (by decide) (Nat.le_of_ble_eq_true rfl) ⟨rfl, hG, (by omega)⟩ rfl (fun r13 σ12 hr13 hor13 => ?_)
      obtain ⟨v14, rfl, hfσ12, hpr13⟩ := hr13
      refine dk_istore (pc' := 30) (ls' := [(4, 141), (0, p), (0, d), (0, k), (0, v14), (9, 0), (9, 0), (9, 0), (9, 0)]) hE dX11_covers_28 rfl (by decide) rfl ?_
      refine dk_iconst (pc' := 31) hE dX11_covers_30 (by decide) rfl ?_
      refine dk_istore (pc' := 33) (ls' := [(4, 141), (0, p), (0, d), (0, k), (0, v14), (0, 0), (9, 0), (9, 0), (9, 0)]) hE dX11_covers_31 rfl (by decide) rfl ?_
      refine dk_iconst (pc' := 34) hE dX11_covers_33 (by decide) rfl ?_
      refine dk_istore (pc' := 36) (ls' := [(4, 141), (0, p), (0, d), (0, k), (0, v14), (0, 0), (0, 0), (9, 0), (9, 0)]) hE dX11_covers_34 rfl (by decide) rfl ?_
      have lp36 : ∀ (N_ : Nat) (m b : Int) (σ36c : dkS), (2147483648 - b).toNat < N_ → ((∀ k_ j_ : Int, ¬ (False) → σ36c k_ j_ = σ12 k_ j_)) → (0 ≤ m ∧ m ≤ b) → dk_PJ E 36 [(4, 141), (0, p), (0, d), (0, k), (0, v14), (0, m), (0, b), (9, 0), (9, 0)] [] 190 σ36c := by
        intro N36
        induction N36 with
        | zero => intro m b σ36c hm; exact absurd hm (Nat.not_lt_zero _)
        | succ N36 ih36 =>
          intro m b σ36c hm36 hF36 hb
          refine dk_iload (pc' := 38) hE dX11_covers_36 rfl rfl ?_
          refine dk_aload_n (pc' := 39) hE dX11_covers_38 rfl rfl rfl ?_
          refine gf_11_52 (pc' := 42) hE fl_X11_416 dX11_covers_39 is_141 rfl (fun v15 hv15 htv15 hbv15 => ?_)
          refine dk_icmp_ge (tgt := 132) (pc' := 45) hE dX11_covers_42 (by decide) rfl (fun hc16 => ?_) (fun hc16 => ?_)
          · skip
            refine dk_iload (pc' := 134) hE dX11_covers_132 rfl rfl ?_
            exact dk_iret (st := []) hE hR dX11_covers_134 ⟨_, rfl, (fun k_ j_ h_ => by rw [hF36 k_ j_ not_false, hfσ12 k_ j_ (fun w_ => h_ (w_.elim (fun x0_ => Or.inl (x0_)) (fun y0_ => y0_.elim (fun x1_ => Or.inr (Or.inl (x1_))) (fun y1_ => y1_.elim (fun x2_ => Or.inr (Or.inr (Or.inl (x2_)))) (fun y2_ => y2_.elim (fun x3_ => Or.inr (Or.inr (Or.inr (Or.inl (x3_))))) (fun y3_ => y3_.elim (fun x4_ => Or.inr (Or.inr (Or.inr (Or.inr (Or.inl (x4_)))))) (fun y4_ => y4_.elim (fun x5_ => Or.inr (Or.inr (Or.inr (Or.inr (Or.inr (Or.inl (x5_))))))) (fun y5_ => y5_.elim (fun x6_ => Or.inr (Or.inr (Or.inr (Or.inr (Or.inr (Or.inr (Or.inl (x6_)))))))) (fun y6_ => y6_.elim (fun x7_ => Or.inr (Or.inr (Or.inr (Or.inr (Or.inr (Or.inr (Or.inr (Or.inl (x7_))))))))) (fun y7_ => y7_.elim (fun x8_ => Or.inr (Or.inr (Or.inr (Or.inr (Or.inr (Or.inr (Or.inr (Or.inr (Or.inl (x8_)))))))))) (fun y8_ => y8_.elim (fun x9_ => Or.inr (Or.inr (Or.inr (Or.inr (Or.inr (Or.inr (Or.inr (Or.inr (Or.inr (Or.inl (x9_))))))))))) (fun y9_ => y9_.elim (fun x10_ => Or.inr (Or.inr (Or.inr (Or.inr (Or.inr (Or.inr (Or.inr (Or.inr (Or.inr (Or.inr (Or.inl (x10_)))))))))))) (fun y10_ => y10_.elim (fun x11_ => Or.inr (Or.inr (Or.inr (Or.inr (Or.inr (Or.inr (Or.inr (Or.inr (Or.inr (Or.inr (Or.inr (Or.inl (x11_))))))))))))) (fun y11_ => y11_.elim (fun x12_ => Or.inr (Or.inr (Or.inr (Or.inr (Or.inr (Or.inr (Or.inr (Or.inr (Or.inr (Or.inr (Or.inr (Or.inr (Or.inl (x12_)))))))))))))) (fun y12_ => y12_.elim (fun x13_ => Or.inr (Or.inr (Or.inr (Or.inr (Or.inr (Or.inr (Or.inr (Or.inr (Or.inr (Or.inr (Or.inr (Or.inr (Or.inr (Or.inl (x13_))))))))))))))) (fun y13_ => Or.inr (Or.inr (Or.inr (Or.inr (Or.inr (Or.inr (Or.inr (Or.inr (Or.inr (Or.inr (Or.inr (Or.inr (Or.inr (Or.inr (y13_))))))))))))))))))))))))))))))]), trivial⟩
          · skip
            refine dk_aload_n (pc' := 46) hE dX11_covers_45 rfl rfl rfl ?_
            refine gf_11_62 (pc' := 49) (w := 176) hE fl_X11_119 dX11_covers_46 is_141 rfl rfl ?_
            refine dk_bipush (pc' := 51) hE dX11_covers_49 (by decide) rfl ?_
            refine dk_iload_n (pc' := 52) hE dX11_covers_51 rfl rfl rfl ?_
            obtain ⟨v17, hv17⟩ : ∃ z : Int, z = 10 * p := ⟨_, rfl⟩
            refine dk_imul (pc' := 53) hE dX11_covers_52 hv17.symm (by omega) rfl ?_
            refine dk_iload (pc' := 55) hE dX11_covers_53 rfl rfl ?_
            obtain ⟨v18, hv18⟩ : ∃ z : Int, z = v17 + b := ⟨_, rfl⟩
            refine dk_iadd (pc' := 56) hE dX11_covers_55 hv18.symm (by omega) rfl ?_
            refine ga_104 (pc' := 57) hE dX11_covers_56 is_176 (by omega) rfl (fun v19 hv19 htv19 hbv19 => ?_)
            refine dk_istore (pc' := 59) (ls' := [(4, 141), (0, p), (0, d), (0, k), (0, v14), (0, m), (0, b), (0, v19), (9, 0)]) hE dX11_covers_57 rfl (by decide) rfl ?_
            refine dk_iconst (pc' := 60) hE dX11_covers_59 (by decide) rfl ?_
            refine dk_istore (pc' := 62) (ls' := [(4, 141), (0, p), (0, d), (0, k), (0, v14), (0, m), (0, b), (0, v19), (0, 0)]) hE dX11_covers_60 rfl (by decide) rfl ?_
            have lp62 : ∀ (N_ : Nat) (x i : Int) (σ62c : dkS), (2147483648 - i).toNat < N_ → ((∀ k_ j_ : Int, ¬ (False) → σ62c k_ j_ = σ36c k_ j_)) → (0 ≤ x ∧ x ≤ 1 ∧ 0 ≤ i) → dk_PJ E 62 [(4, 141), (0, p), (0, d), (0, k), (0, v14), (0, m), (0, b), (0, x), (0, i)] [] 190 σ62c := by
              intro N62
              induction N62 with
              | zero => intro x i σ62c hm; exact absurd hm (Nat.not_lt_zero _)
              | succ N62 ih62 =>
                intro x i σ62c hm62 hF62 hx
                refine dk_iload (pc' := 64) hE dX11_covers_62 rfl rfl ?_
                refine dk_aload_n (pc' := 65) hE dX11_covers_64 rfl rfl rfl ?_
                refine gf_11_70 (pc' := 68) hE fl_X11_483 dX11_covers_65 is_141 rfl (fun v20 hv20 htv20 hbv20 => ?_)
                refine dk_icmp_ge (tgt := 111) (pc' := 71) hE dX11_covers_68 (by decide) rfl (fun hc21 => ?_) (fun hc21 => ?_)
                · skip
                  refine dk_iload (pc' := 113) hE dX11_covers_111 rfl rfl ?_
                  refine dk_iload (pc' := 115) hE dX11_covers_113 rfl rfl ?_
                  refine dk_if_eq (tgt := 122) (pc' := 118) hE dX11_covers_115 (by decide) rfl (fun hc22 => ?_) (fun hc22 => ?_)
                  · skip
                    refine dk_iconst (pc' := 123) hE dX11_covers_122 (by decide) rfl ?_
                    obtain ⟨v23, hv23⟩ : ∃ z : Int, z = m + 0 := ⟨_, rfl⟩
                    refine dk_iadd (pc' := 124) hE dX11_covers_123 hv23.symm (by omega) rfl ?_
                    refine dk_istore (pc' := 126) (ls' := [(4, 141), (0, p), (0, d), (0, k), (0, v14), (0, v23), (0, b), (0, x), (0, i)]) hE dX11_covers_124 rfl (by decide) rfl ?_
                    obtain ⟨v24, hv24⟩ : ∃ z : Int, z = b + 1 := ⟨_, rfl⟩
                    refine dk_iinc (pc' := 129) (ls' := [(4, 141), (0, p), (0, d), (0, k), (0, v14), (0, v23), (0, v24), (0, x), (0, i)]) hE dX11_covers_126 rfl hv24.symm (by omega) rfl (by decide) rfl ?_
                    refine dk_goto (tgt := 36) hE dX11_covers_129 (by decide) ?_
                    refine dk_drop (ls' := [(4, 141), (0, p), (0, d), (0, k), (0, v14), (0, v23), (0, v24), (9, 0), (9, 0)]) [true, true, true, true, true, true, true, false, false] rfl ?_
                    exact ih36 v23 v24 σ62c (by omega) (fun k_ j_ h_ => by rw [hF62 k_ j_ not_false, hF36 k_ j_ not_false]) (by omega)
                  · skip
                    refine dk_iconst (pc' := 119) hE dX11_covers_118 (by decide) rfl ?_
                    refine dk_goto (tgt := 123) hE dX11_covers_119 (by decide) ?_
                    obtain ⟨v25, hv25⟩ : ∃ z : Int, z = m + 1 := ⟨_, rfl⟩
                    refine dk_iadd (pc' := 124) hE dX11_covers_123 hv25.symm (by omega) rfl ?_
                    refine dk_istore (pc' := 126) (ls' := [(4, 141), (0, p), (0, d), (0, k), (0, v14), (0, v25), (0, b), (0, x), (0, i)]) hE dX11_covers_124 rfl (by decide) rfl ?_
                    obtain ⟨v26, hv26⟩ : ∃ z : Int, z = b + 1 := ⟨_, rfl⟩
                    refine dk_iinc (pc' := 129) (ls' := [(4, 141), (0, p), (0, d), (0, k), (0, v14), (0, v25), (0, v26), (0, x), (0, i)]) hE dX11_covers_126 rfl hv26.symm (by omega) rfl (by decide) rfl ?_
                    refine dk_goto (tgt := 36) hE dX11_covers_129 (by decide) ?_
                    refine dk_drop (ls' := [(4, 141), (0, p), (0, d), (0, k), (0, v14), (0, v25), (0, v26), (9, 0), (9, 0)]) [true, true, true, true, true, true, true, false, false] rfl ?_
                    exact ih36 v25 v26 σ62c (by omega) (fun k_ j_ h_ => by rw [hF62 k_ j_ not_false, hF36 k_ j_ not_false]) (by omega)
                · skip
                  refine dk_iload (pc' := 73) hE dX11_covers_71 rfl rfl ?_
                  refine dk_if_eq (tgt := 111) (pc' := 76) hE dX11_covers_73 (by decide) rfl (fun hc27 => ?_) (fun hc27 => ?_)
                  · skip
                    refine dk_iload (pc' := 113) hE dX11_covers_111 rfl rfl ?_
                    refine dk_iload (pc' := 115) hE dX11_covers_113 rfl rfl ?_
                    refine dk_if_eq (tgt := 122) (pc' := 118) hE dX11_covers_115 (by decide) rfl (fun hc28 => ?_) (fun hc28 => ?_)
                    · skip
                      refine dk_iconst (pc' := 123) hE dX11_covers_122 (by decide) rfl ?_
                      obtain ⟨v29, hv29⟩ : ∃ z : Int, z = m + 0 := ⟨_, rfl⟩
                      refine dk_iadd (pc' := 124) hE dX11_covers_123 hv29.symm (by omega) rfl ?_
                      refine dk_istore (pc' := 126) (ls' := [(4, 141), (0, p), (0, d), (0, k), (0, v14), (0, v29), (0, b), (0, x), (0, i)]) hE dX11_covers_124 rfl (by decide) rfl ?_
                      obtain ⟨v30, hv30⟩ : ∃ z : Int, z = b + 1 := ⟨_, rfl⟩
                      refine dk_iinc (pc' := 129) (ls' := [(4, 141), (0, p), (0, d), (0, k), (0, v14), (0, v29), (0, v30), (0, x), (0, i)]) hE dX11_covers_126 rfl hv30.symm (by omega) rfl (by decide) rfl ?_
                      refine dk_goto (tgt := 36) hE dX11_covers_129 (by decide) ?_
                      refine dk_drop (ls' := [(4, 141), (0, p), (0, d), (0, k), (0, v14), (0, v29), (0, v30), (9, 0), (9, 0)]) [true, true, true, true, true, true, true, false, false] rfl ?_
                      exact ih36 v29 v30 σ62c (by omega) (fun k_ j_ h_ => by rw [hF62 k_ j_ not_false, hF36 k_ j_ not_false]) (by omega)
                    · skip
                      refine dk_iconst (pc' := 119) hE dX11_covers_118 (by decide) rfl ?_
                      refine dk_goto (tgt := 123) hE dX11_covers_119 (by decide) ?_
                      obtain ⟨v31, hv31⟩ : ∃ z : Int, z = m + 1 := ⟨_, rfl⟩
                      refine dk_iadd (pc' := 124) hE dX11_covers_123 hv31.symm (by omega) rfl ?_
                      refine dk_istore (pc' := 126) (ls' := [(4, 141), (0, p), (0, d), (0, k), (0, v14), (0, v31), (0, b), (0, x), (0, i)]) hE dX11_covers_124 rfl (by decide) rfl ?_
                      obtain ⟨v32, hv32⟩ : ∃ z : Int, z = b + 1 := ⟨_, rfl⟩
                      refine dk_iinc (pc' := 129) (ls' := [(4, 141), (0, p), (0, d), (0, k), (0, v14), (0, v31), (0, v32), (0, x), (0, i)]) hE dX11_covers_126 rfl hv32.symm (by omega) rfl (by decide) rfl ?_
                      refine dk_goto (tgt := 36) hE dX11_covers_129 (by decide) ?_
                      refine dk_drop (ls' := [(4, 141), (0, p), (0, d), (0, k), (0, v14), (0, v31), (0, v32), (9, 0), (9, 0)]) [true, true, true, true, true, true, true, false, false] rfl ?_
                      exact ih36 v31 v32 σ62c (by omega) (fun k_ j_ h_ => by rw [hF62 k_ j_ not_false, hF36 k_ j_ not_false]) (by omega)
                  · skip
                    refine dk_iload (pc' := 78) hE dX11_covers_76 rfl rfl ?_
                    refine dk_if_eq (tgt := 102) (pc' := 81) hE dX11_covers_78 (by decide) rfl (fun hc33 => ?_) (fun hc33 => ?_)
                    · skip
                      refine dk_iconst (pc' := 103) hE dX11_covers_102 (by decide) rfl ?_
                      refine dk_istore (pc' := 105) (ls' := [(4, 141), (0, p), (0, d), (0, k), (0, v14), (0, m), (0, b), (0, 0), (0, i)]) hE dX11_covers_103 rfl (by decide) rfl ?_
                      obtain ⟨v34, hv34⟩ : ∃ z : Int, z = i + 1 := ⟨_, rfl⟩
                      refine dk_iinc (pc' := 108) (ls' := [(4, 141), (0, p), (0, d), (0, k), (0, v14), (0, m), (0, b), (0, 0), (0, v34)]) hE dX11_covers_105 rfl hv34.symm (by omega) rfl (by decide) rfl ?_
                      refine dk_goto (tgt := 62) hE dX11_covers_108 (by decide) ?_
                      exact ih62 0 v34 σ62c (by omega) (fun k_ j_ h_ => by rw [hF62 k_ j_ not_false]) (by omega)
                    · skip
                      refine dk_aload_n (pc' := 82) hE dX11_covers_81 rfl rfl rfl ?_
                      refine gf_11_64 (pc' := 85) (w := 178) hE fl_X11_125 dX11_covers_82 is_141 rfl rfl ?_
                      refine dk_aload_n (pc' := 86) hE dX11_covers_85 rfl rfl rfl ?_
                      refine gf_11_66 (pc' := 89) (w := 180) hE fl_X11_131 dX11_covers_86 is_141 rfl rfl ?_
                      refine dk_iload (pc' := 91) hE dX11_covers_89 rfl rfl ?_
                      refine ga_108 (pc' := 92) hE dX11_covers_91 is_180 (by omega) rfl (fun v35 hv35 htv35 hbv35 => ?_)
                      refine ga_106 (pc' := 93) hE dX11_covers_92 is_178 (by omega) rfl (fun v36 hv36 htv36 hbv36 => ?_)
                      refine dk_iload (pc' := 95) hE dX11_covers_93 rfl rfl ?_
                      refine dk_icmp_eq (tgt := 102) (pc' := 98) hE dX11_covers_95 (by decide) rfl (fun hc37 => ?_) (fun hc37 => ?_)
                      · skip
                        refine dk_iconst (pc' := 103) hE dX11_covers_102 (by decide) rfl ?_
                        refine dk_istore (pc' := 105) (ls' := [(4, 141), (0, p), (0, d), (0, k), (0, v14), (0, m), (0, b), (0, 0), (0, i)]) hE dX11_covers_103 rfl (by decide) rfl ?_
                        obtain ⟨v38, hv38⟩ : ∃ z : Int, z = i + 1 := ⟨_, rfl⟩
                        refine dk_iinc (pc' := 108) (ls' := [(4, 141), (0, p), (0, d), (0, k), (0, v14), (0, m), (0, b), (0, 0), (0, v38)]) hE dX11_covers_105 rfl hv38.symm (by omega) rfl (by decide) rfl ?_
                        refine dk_goto (tgt := 62) hE dX11_covers_108 (by decide) ?_
                        exact ih62 0 v38 σ62c (by omega) (fun k_ j_ h_ => by rw [hF62 k_ j_ not_false]) (by omega)
                      · skip
                        refine dk_iconst (pc' := 99) hE dX11_covers_98 (by decide) rfl ?_
                        refine dk_goto (tgt := 103) hE dX11_covers_99 (by decide) ?_
                        refine dk_istore (pc' := 105) (ls' := [(4, 141), (0, p), (0, d), (0, k), (0, v14), (0, m), (0, b), (0, 1), (0, i)]) hE dX11_covers_103 rfl (by decide) rfl ?_
                        obtain ⟨v39, hv39⟩ : ∃ z : Int, z = i + 1 := ⟨_, rfl⟩
                        refine dk_iinc (pc' := 108) (ls' := [(4, 141), (0, p), (0, d), (0, k), (0, v14), (0, m), (0, b), (0, 1), (0, v39)]) hE dX11_covers_105 rfl hv39.symm (by omega) rfl (by decide) rfl ?_
                        refine dk_goto (tgt := 62) hE dX11_covers_108 (by decide) ?_
                        exact ih62 1 v39 σ62c (by omega) (fun k_ j_ h_ => by rw [hF62 k_ j_ not_false]) (by omega)
            exact lp62 _ v19 0 σ36c (Nat.lt_succ_self _) (fun k_ j_ h_ => rfl) (by omega)
      exact lp36 _ 0 0 σ12 (Nat.lt_succ_self _) (fun k_ j_ h_ => rfl) (by omega)
    · skip
      refine dk_if_ne (tgt := 17) (pc' := 15) hE dX11_covers_12 (by decide) rfl (fun hc40 => absurd hc40 (by decide)) (fun hc40 => ?_)
      refine dk_iconst (pc' := 16) hE dX11_covers_15 (by decide) rfl ?_
      exact dk_iret (st := []) hE hR dX11_covers_16 ⟨_, rfl, (fun k_ j_ h_ => rfl), trivial⟩
  · skip
    refine dk_if_eq (tgt := 15) (pc' := 8) hE dX11_covers_5 (by decide) rfl (fun hc41 => ?_) (fun hc41 => absurd hc41 (by decide))
    refine dk_iconst (pc' := 16) hE dX11_covers_15 (by decide) rfl ?_
    exact dk_iret (st := []) hE hR dX11_covers_16 ⟨_, rfl, (fun k_ j_ h_ => rfl), trivial⟩
set_option maxHeartbeats 4000000 in
set_option maxRecDepth 20000 in
theorem ct_X11_falling (l : Launch) (G : dkG) (hGd : dk_Gd G) (w b d k : Int) : dk_Ct l G dk_Ty yX11_falling cX11_falling 6 (some .boolean) 9 190 190 (fun av σ => av = [(4, 141), (0, w), (0, b), (0, d), (0, k)] ∧ (MI σ) ∧ (0 ≤ w ∧ w ≤ 3)) (fun _ σ r_ σ' => ∃ z : Int, r_ = some (0, z) ∧ (∀ k_ j_ : Int, ¬ ((k_ = 141 ∧ j_ = 55) ∨ (k_ = 141 ∧ j_ = 56) ∨ (k_ = 141 ∧ j_ = 57) ∨ (k_ = 141 ∧ j_ = 58) ∨ (k_ = 141 ∧ j_ = 59) ∨ (k_ = 141 ∧ j_ = 60) ∨ (k_ = 141 ∧ j_ = 61) ∨ k_ = 168 ∨ (k_ = 141 ∧ j_ = 70) ∨ (176 ≤ k_ ∧ k_ ≤ 177) ∨ k_ = 180 ∨ (k_ = 141 ∧ j_ = 71) ∨ (k_ = 141 ∧ j_ = 72) ∨ (181 ≤ k_ ∧ k_ ≤ 183) ∨ k_ = 178 ∨ k_ = 179) → σ' k_ j_ = σ k_ j_) ∧ (0 ≤ z ∧ z ≤ 1)) := by
  refine dk_enter hGd (by decide) (fun av σ hpre hok => ?_)
  obtain ⟨rfl, hG, hw⟩ := hpre
  refine ⟨Nat.le_of_ble_eq_true rfl, fun E hE hR _ => ?_⟩
  have hi_w : dk_i32 w := dk_oki (hok _ (by simp))
  have hi_b : dk_i32 b := dk_oki (hok _ (by simp))
  have hi_d : dk_i32 d := dk_oki (hok _ (by simp))
  have hi_k : dk_i32 k := dk_oki (hok _ (by simp))
  show dk_PJ E 0 [(4, 141), (0, w), (0, b), (0, d), (0, k), (9, 0)] [] 190 σ
  refine dk_aload_n (pc' := 1) hE dX11_falling_0 rfl rfl rfl ?_
  refine dk_iload_n (pc' := 2) hE dX11_falling_1 rfl rfl rfl ?_
  refine dk_iload_n (pc' := 3) hE dX11_falling_2 rfl rfl rfl ?_
  refine dk_iload (pc' := 5) hE dX11_falling_3 rfl rfl ?_
  refine dk_cV (pc' := 8) (as := [(0, w), (0, d), (0, k)]) hE lk_X11_501 (ct_X11_hasCast l G hGd w d k) dX11_falling_5 rfl is_141 rfl (by decide) (Nat.le_of_ble_eq_true rfl) ⟨rfl, hG, (by omega)⟩ rfl (fun r2 σ1 hr2 hor2 => ?_)
  obtain ⟨v3, rfl, hfσ1, hpr2⟩ := hr2
  refine dk_istore (pc' := 10) (ls' := [(4, 141), (0, w), (0, b), (0, d), (0, k), (0, v3)]) hE dX11_falling_8 rfl (by decide) rfl ?_
  refine dk_aload_n (pc' := 11) hE dX11_falling_10 rfl rfl rfl ?_
  refine dk_iload_n (pc' := 12) hE dX11_falling_11 rfl rfl rfl ?_
  refine dk_iload (pc' := 14) hE dX11_falling_12 rfl rfl ?_
  refine dk_aload_n (pc' := 15) hE dX11_falling_14 rfl rfl rfl ?_
  refine gf_11_65 (pc' := 18) (w := 179) hE fl_X11_128 dX11_falling_15 is_141 rfl rfl ?_
  have gi4 : MI σ1 := MI_fr hG (fun k_ j_ h_ => by rw [hfσ1 k_ j_ (fpw33_1480854822 k_ j_ h_)])
  refine dk_cV (pc' := 21) (as := [(0, b), (0, v3), (4, 179)]) hE lk_X11_497 (ct_X11_seekCast_179 l G hGd b v3 (σ1 141 70)) dX11_falling_18 rfl is_141 rfl (by decide) (Nat.le_of_ble_eq_true rfl) ⟨rfl, gi4, (by omega)⟩ rfl (fun r6 σ5 hr6 hor6 => ?_)
  obtain ⟨v7, rfl, hfσ5, hpr6⟩ := hr6
  refine dk_if_ne (tgt := 26) (pc' := 24) hE dX11_falling_21 (by decide) rfl (fun hc8 => ?_) (fun hc8 => ?_)
  · skip
    refine dk_iload (pc' := 28) hE dX11_falling_26 rfl rfl ?_
    refine dk_if_ne (tgt := 39) (pc' := 31) hE dX11_falling_28 (by decide) rfl (fun hc9 => ?_) (fun hc9 => ?_)
    · skip
      refine dk_iconst (pc' := 40) hE dX11_falling_39 (by decide) rfl ?_
      exact dk_zret (st := []) hE hR dX11_falling_40 (by omega) ⟨_, rfl, (fun k_ j_ h_ => by rw [hfσ5 k_ j_ (fun w_ => h_ (w_.elim (fun x0_ => Or.inr (Or.inr (Or.inr (Or.inr (Or.inr (Or.inr (Or.inr (Or.inr (Or.inr (Or.inr (Or.inr (Or.inl (x0_))))))))))))) (fun y0_ => y0_.elim (fun x1_ => Or.inr (Or.inr (Or.inr (Or.inr (Or.inr (Or.inr (Or.inr (Or.inr (Or.inr (Or.inr (Or.inr (Or.inr (Or.inl (x1_)))))))))))))) (fun y1_ => y1_.elim (fun x2_ => Or.inr (Or.inr (Or.inr (Or.inr (Or.inr (Or.inr (Or.inr (Or.inr (Or.inr (Or.inr (Or.inr (Or.inr (Or.inr (Or.inl (x2_))))))))))))))) (fun y2_ => Or.inr (Or.inr (Or.inr (Or.inr (Or.inr (Or.inr (Or.inr (Or.inr (Or.inr (Or.inr (Or.inr (Or.inr (Or.inr (Or.inr (Or.inr (y2_)))))))))))))))))))), hfσ1 k_ j_ (fun w_ => h_ (w_.elim (fun x0_ => Or.inl (x0_)) (fun y0_ => y0_.elim (fun x1_ => Or.inr (Or.inl (x1_))) (fun y1_ => y1_.elim (fun x2_ => Or.inr (Or.inr (Or.inl (x2_)))) (fun y2_ => y2_.elim (fun x3_ => Or.inr (Or.inr (Or.inr (Or.inl (x3_))))) (fun y3_ => y3_.elim (fun x4_ => Or.inr (Or.inr (Or.inr (Or.inr (Or.inl (x4_)))))) (fun y4_ => y4_.elim (fun x5_ => Or.inr (Or.inr (Or.inr (Or.inr (Or.inr (Or.inl (x5_))))))) (fun y5_ => y5_.elim (fun x6_ => Or.inr (Or.inr (Or.inr (Or.inr (Or.inr (Or.inr (Or.inl (x6_)))))))) (fun y6_ => y6_.elim (fun x7_ => Or.inr (Or.inr (Or.inr (Or.inr (Or.inr (Or.inr (Or.inr (Or.inl (x7_))))))))) (fun y7_ => y7_.elim (fun x8_ => Or.inr (Or.inr (Or.inr (Or.inr (Or.inr (Or.inr (Or.inr (Or.inr (Or.inl (x8_)))))))))) (fun y8_ => y8_.elim (fun x9_ => Or.inr (Or.inr (Or.inr (Or.inr (Or.inr (Or.inr (Or.inr (Or.inr (Or.inr (Or.inl (x9_))))))))))) (fun y9_ => y9_.elim (fun x10_ => Or.inr (Or.inr (Or.inr (Or.inr (Or.inr (Or.inr (Or.inr (Or.inr (Or.inr (Or.inr (Or.inl (x10_)))))))))))) (fun y10_ => y10_.elim (fun x11_ => Or.inr (Or.inr (Or.inr (Or.inr (Or.inr (Or.inr (Or.inr (Or.inr (Or.inr (Or.inr (Or.inr (Or.inl (x11_))))))))))))) (fun y11_ => y11_.elim (fun x12_ => Or.inr (Or.inr (Or.inr (Or.inr (Or.inr (Or.inr (Or.inr (Or.inr (Or.inr (Or.inr (Or.inr (Or.inr (Or.inl (x12_)))))))))))))) (fun y12_ => y12_.elim (fun x13_ => Or.inr (Or.inr (Or.inr (Or.inr (Or.inr (Or.inr (Or.inr (Or.inr (Or.inr (Or.inr (Or.inr (Or.inr (Or.inr (Or.inl (x13_))))))))))))))) (fun y13_ => Or.inr (Or.inr (Or.inr (Or.inr (Or.inr (Or.inr (Or.inr (Or.inr (Or.inr (Or.inr (Or.inr (Or.inr (Or.inr (Or.inr (Or.inl (y13_)))))))))))))))))))))))))))))))]), by omega⟩
    · skip
      refine dk_aload_n (pc' := 32) hE dX11_falling_31 rfl rfl rfl ?_
      refine dk_aload_n (pc' := 33) hE dX11_falling_32 rfl rfl rfl ?_
      refine gf_11_70 (pc' := 36) hE fl_X11_483 dX11_falling_33 is_141 rfl (fun v10 hv10 htv10 hbv10 => ?_)
      refine pf_11_71 (pc' := 39) hE fl_X11_491 dX11_falling_36 is_141 trivial rfl (fun σ11 eσ11 => ?_)
      refine dk_iconst (pc' := 40) hE dX11_falling_39 (by decide) rfl ?_
      exact dk_zret (st := []) hE hR dX11_falling_40 (by omega) ⟨_, rfl, (fun k_ j_ h_ => by rw [eσ11, dk_up_n (show ¬ (k_ = 141 ∧ j_ = 71) from fun q_ => h_ (Or.inr (Or.inr (Or.inr (Or.inr (Or.inr (Or.inr (Or.inr (Or.inr (Or.inr (Or.inr (Or.inr (Or.inl (q_)))))))))))))), hfσ5 k_ j_ (fun w_ => h_ (w_.elim (fun x0_ => Or.inr (Or.inr (Or.inr (Or.inr (Or.inr (Or.inr (Or.inr (Or.inr (Or.inr (Or.inr (Or.inr (Or.inl (x0_))))))))))))) (fun y0_ => y0_.elim (fun x1_ => Or.inr (Or.inr (Or.inr (Or.inr (Or.inr (Or.inr (Or.inr (Or.inr (Or.inr (Or.inr (Or.inr (Or.inr (Or.inl (x1_)))))))))))))) (fun y1_ => y1_.elim (fun x2_ => Or.inr (Or.inr (Or.inr (Or.inr (Or.inr (Or.inr (Or.inr (Or.inr (Or.inr (Or.inr (Or.inr (Or.inr (Or.inr (Or.inl (x2_))))))))))))))) (fun y2_ => Or.inr (Or.inr (Or.inr (Or.inr (Or.inr (Or.inr (Or.inr (Or.inr (Or.inr (Or.inr (Or.inr (Or.inr (Or.inr (Or.inr (Or.inr (y2_)))))))))))))))))))), hfσ1 k_ j_ (fun w_ => h_ (w_.elim (fun x0_ => Or.inl (x0_)) (fun y0_ => y0_.elim (fun x1_ => Or.inr (Or.inl (x1_))) (fun y1_ => y1_.elim (fun x2_ => Or.inr (Or.inr (Or.inl (x2_)))) (fun y2_ => y2_.elim (fun x3_ => Or.inr (Or.inr (Or.inr (Or.inl (x3_))))) (fun y3_ => y3_.elim (fun x4_ => Or.inr (Or.inr (Or.inr (Or.inr (Or.inl (x4_)))))) (fun y4_ => y4_.elim (fun x5_ => Or.inr (Or.inr (Or.inr (Or.inr (Or.inr (Or.inl (x5_))))))) (fun y5_ => y5_.elim (fun x6_ => Or.inr (Or.inr (Or.inr (Or.inr (Or.inr (Or.inr (Or.inl (x6_)))))))) (fun y6_ => y6_.elim (fun x7_ => Or.inr (Or.inr (Or.inr (Or.inr (Or.inr (Or.inr (Or.inr (Or.inl (x7_))))))))) (fun y7_ => y7_.elim (fun x8_ => Or.inr (Or.inr (Or.inr (Or.inr (Or.inr (Or.inr (Or.inr (Or.inr (Or.inl (x8_)))))))))) (fun y8_ => y8_.elim (fun x9_ => Or.inr (Or.inr (Or.inr (Or.inr (Or.inr (Or.inr (Or.inr (Or.inr (Or.inr (Or.inl (x9_))))))))))) (fun y9_ => y9_.elim (fun x10_ => Or.inr (Or.inr (Or.inr (Or.inr (Or.inr (Or.inr (Or.inr (Or.inr (Or.inr (Or.inr (Or.inl (x10_)))))))))))) (fun y10_ => y10_.elim (fun x11_ => Or.inr (Or.inr (Or.inr (Or.inr (Or.inr (Or.inr (Or.inr (Or.inr (Or.inr (Or.inr (Or.inr (Or.inl (x11_))))))))))))) (fun y11_ => y11_.elim (fun x12_ => Or.inr (Or.inr (Or.inr (Or.inr (Or.inr (Or.inr (Or.inr (Or.inr (Or.inr (Or.inr (Or.inr (Or.inr (Or.inl (x12_)))))))))))))) (fun y12_ => y12_.elim (fun x13_ => Or.inr (Or.inr (Or.inr (Or.inr (Or.inr (Or.inr (Or.inr (Or.inr (Or.inr (Or.inr (Or.inr (Or.inr (Or.inr (Or.inl (x13_))))))))))))))) (fun y13_ => Or.inr (Or.inr (Or.inr (Or.inr (Or.inr (Or.inr (Or.inr (Or.inr (Or.inr (Or.inr (Or.inr (Or.inr (Or.inr (Or.inr (Or.inl (y13_)))))))))))))))))))))))))))))))]), by omega⟩
  · skip
    refine dk_iconst (pc' := 25) hE dX11_falling_24 (by decide) rfl ?_
    exact dk_zret (st := []) hE hR dX11_falling_25 (by omega) ⟨_, rfl, (fun k_ j_ h_ => by rw [hfσ5 k_ j_ (fun w_ => h_ (w_.elim (fun x0_ => Or.inr (Or.inr (Or.inr (Or.inr (Or.inr (Or.inr (Or.inr (Or.inr (Or.inr (Or.inr (Or.inr (Or.inl (x0_))))))))))))) (fun y0_ => y0_.elim (fun x1_ => Or.inr (Or.inr (Or.inr (Or.inr (Or.inr (Or.inr (Or.inr (Or.inr (Or.inr (Or.inr (Or.inr (Or.inr (Or.inl (x1_)))))))))))))) (fun y1_ => y1_.elim (fun x2_ => Or.inr (Or.inr (Or.inr (Or.inr (Or.inr (Or.inr (Or.inr (Or.inr (Or.inr (Or.inr (Or.inr (Or.inr (Or.inr (Or.inl (x2_))))))))))))))) (fun y2_ => Or.inr (Or.inr (Or.inr (Or.inr (Or.inr (Or.inr (Or.inr (Or.inr (Or.inr (Or.inr (Or.inr (Or.inr (Or.inr (Or.inr (Or.inr (y2_)))))))))))))))))))), hfσ1 k_ j_ (fun w_ => h_ (w_.elim (fun x0_ => Or.inl (x0_)) (fun y0_ => y0_.elim (fun x1_ => Or.inr (Or.inl (x1_))) (fun y1_ => y1_.elim (fun x2_ => Or.inr (Or.inr (Or.inl (x2_)))) (fun y2_ => y2_.elim (fun x3_ => Or.inr (Or.inr (Or.inr (Or.inl (x3_))))) (fun y3_ => y3_.elim (fun x4_ => Or.inr (Or.inr (Or.inr (Or.inr (Or.inl (x4_)))))) (fun y4_ => y4_.elim (fun x5_ => Or.inr (Or.inr (Or.inr (Or.inr (Or.inr (Or.inl (x5_))))))) (fun y5_ => y5_.elim (fun x6_ => Or.inr (Or.inr (Or.inr (Or.inr (Or.inr (Or.inr (Or.inl (x6_)))))))) (fun y6_ => y6_.elim (fun x7_ => Or.inr (Or.inr (Or.inr (Or.inr (Or.inr (Or.inr (Or.inr (Or.inl (x7_))))))))) (fun y7_ => y7_.elim (fun x8_ => Or.inr (Or.inr (Or.inr (Or.inr (Or.inr (Or.inr (Or.inr (Or.inr (Or.inl (x8_)))))))))) (fun y8_ => y8_.elim (fun x9_ => Or.inr (Or.inr (Or.inr (Or.inr (Or.inr (Or.inr (Or.inr (Or.inr (Or.inr (Or.inl (x9_))))))))))) (fun y9_ => y9_.elim (fun x10_ => Or.inr (Or.inr (Or.inr (Or.inr (Or.inr (Or.inr (Or.inr (Or.inr (Or.inr (Or.inr (Or.inl (x10_)))))))))))) (fun y10_ => y10_.elim (fun x11_ => Or.inr (Or.inr (Or.inr (Or.inr (Or.inr (Or.inr (Or.inr (Or.inr (Or.inr (Or.inr (Or.inr (Or.inl (x11_))))))))))))) (fun y11_ => y11_.elim (fun x12_ => Or.inr (Or.inr (Or.inr (Or.inr (Or.inr (Or.inr (Or.inr (Or.inr (Or.inr (Or.inr (Or.inr (Or.inr (Or.inl (x12_)))))))))))))) (fun y12_ => y12_.elim (fun x13_ => Or.inr (Or.inr (Or.inr (Or.inr (Or.inr (Or.inr (Or.inr (Or.inr (Or.inr (Or.inr (Or.inr (Or.inr (Or.inr (Or.inl (x13_))))))))))))))) (fun y13_ => Or.inr (Or.inr (Or.inr (Or.inr (Or.inr (Or.inr (Or.inr (Or.inr (Or.inr (Or.inr (Or.inr (Or.inr (Or.inr (Or.inr (Or.inl (y13_)))))))))))))))))))))))))))))))]), by omega⟩
set_option maxHeartbeats 4000000 in
set_option maxRecDepth 20000 in
theorem ct_X11_fall (l : Launch) (G : dkG) (hGd : dk_Gd G) (w b d k : Int) : dk_Ct l G dk_Ty yX11_fall cX11_fall 5 (some .int) 10 190 190 (fun av σ => av = [(4, 141), (0, w), (0, b), (0, d), (0, k)] ∧ (MI σ)) (fun _ σ r_ σ' => ∃ z : Int, r_ = some (0, z) ∧ (∀ k_ j_ : Int, ¬ ((k_ = 141 ∧ j_ = 55) ∨ (k_ = 141 ∧ j_ = 56) ∨ (k_ = 141 ∧ j_ = 57) ∨ (k_ = 141 ∧ j_ = 58) ∨ (k_ = 141 ∧ j_ = 59) ∨ (k_ = 141 ∧ j_ = 60) ∨ (k_ = 141 ∧ j_ = 61) ∨ k_ = 168 ∨ (k_ = 141 ∧ j_ = 70) ∨ (176 ≤ k_ ∧ k_ ≤ 177) ∨ k_ = 180 ∨ (k_ = 141 ∧ j_ = 71) ∨ (k_ = 141 ∧ j_ = 72) ∨ (181 ≤ k_ ∧ k_ ≤ 183) ∨ k_ = 178 ∨ k_ = 179) → σ' k_ j_ = σ k_ j_) ∧ (True)) := by
  refine dk_enter hGd (by decide) (fun av σ hpre hok => ?_)
  obtain ⟨rfl, hG⟩ := hpre
  refine ⟨Nat.le_of_ble_eq_true rfl, fun E hE hR _ => ?_⟩
  have hi_w : dk_i32 w := dk_oki (hok _ (by simp))
  have hi_b : dk_i32 b := dk_oki (hok _ (by simp))
  have hi_d : dk_i32 d := dk_oki (hok _ (by simp))
  have hi_k : dk_i32 k := dk_oki (hok _ (by simp))
  show dk_PJ E 0 [(4, 141), (0, w), (0, b), (0, d), (0, k)] [] 190 σ
  refine dk_aload_n (pc' := 1) hE dX11_fall_0 rfl rfl rfl ?_
  refine dk_iload_n (pc' := 2) hE dX11_fall_1 rfl rfl rfl ?_
  refine dk_cV (pc' := 5) (as := [(0, w)]) hE lk_X11_359 (ct_X11_isWork l G hGd w) dX11_fall_2 rfl is_141 rfl (by decide) (Nat.le_of_ble_eq_true rfl) rfl rfl (fun r2 σ1 hr2 hor2 => ?_)
  obtain ⟨v3, rfl, hfσ1, hpr2⟩ := hr2
  have hsσ1 : σ = σ1 := (funext (fun k => funext (fun j => hfσ1 k j not_false))).symm
  subst hsσ1
  rcases hpr2 with ⟨rfl, hpr2⟩ | rfl
  · skip
    refine dk_if_eq (tgt := 42) (pc' := 8) hE dX11_fall_5 (by decide) rfl (fun hc4 => absurd hc4 (by decide)) (fun hc4 => ?_)
    refine dk_aload_n (pc' := 9) hE dX11_fall_8 rfl rfl rfl ?_
    refine dk_iload_n (pc' := 10) hE dX11_fall_9 rfl rfl rfl ?_
    refine dk_cV (pc' := 13) (as := [(0, b)]) hE lk_X11_422 (ct_X11_isBody l G hGd b) dX11_fall_10 rfl is_141 rfl (by decide) (Nat.le_of_ble_eq_true rfl) rfl rfl (fun r6 σ5 hr6 hor6 => ?_)
    obtain ⟨v7, rfl, hfσ5, hpr6⟩ := hr6
    have hsσ5 : σ = σ5 := (funext (fun k => funext (fun j => hfσ5 k j not_false))).symm
    subst hsσ5
    rcases hpr6 with ⟨rfl, hpr6⟩ | rfl
    · skip
      refine dk_if_eq (tgt := 42) (pc' := 16) hE dX11_fall_13 (by decide) rfl (fun hc8 => absurd hc8 (by decide)) (fun hc8 => ?_)
      refine dk_iload_n (pc' := 17) hE dX11_fall_16 rfl rfl rfl ?_
      refine dk_cS (pc' := 20) (as := [(0, d)]) hE lk_X11_371 (ct_X11_isDay l G hGd d) dX11_fall_17 rfl rfl (by decide) (Nat.le_of_ble_eq_true rfl) rfl rfl (fun r10 σ9 hr10 hor10 => ?_)
      obtain ⟨v11, rfl, hfσ9, hpr10⟩ := hr10
      have hsσ9 : σ = σ9 := (funext (fun k => funext (fun j => hfσ9 k j not_false))).symm
      subst hsσ9
      rcases hpr10 with ⟨rfl, hpr10⟩ | ⟨rfl, hpr10⟩
      · skip
        refine dk_if_eq (tgt := 42) (pc' := 23) hE dX11_fall_20 (by decide) rfl (fun hc12 => absurd hc12 (by decide)) (fun hc12 => ?_)
        refine dk_aload_n (pc' := 24) hE dX11_fall_23 rfl rfl rfl ?_
        refine dk_iload_n (pc' := 25) hE dX11_fall_24 rfl rfl rfl ?_
        refine dk_iload_n (pc' := 26) hE dX11_fall_25 rfl rfl rfl ?_
        refine dk_iload_n (pc' := 27) hE dX11_fall_26 rfl rfl rfl ?_
        refine dk_iload (pc' := 29) hE dX11_fall_27 rfl rfl ?_
        refine dk_cV (pc' := 32) (as := [(0, w), (0, b), (0, d), (0, k)]) hE lk_X11_506 (ct_X11_falling l G hGd w b d k) dX11_fall_29 rfl is_141 rfl (by decide) (Nat.le_of_ble_eq_true rfl) ⟨rfl, hG, (by omega)⟩ rfl (fun r14 σ13 hr14 hor14 => ?_)
        obtain ⟨v15, rfl, hfσ13, hpr14⟩ := hr14
        refine dk_if_eq (tgt := 42) (pc' := 35) hE dX11_fall_32 (by decide) rfl (fun hc16 => ?_) (fun hc16 => ?_)
        · skip
          refine dk_iconst (pc' := 43) hE dX11_fall_42 (by decide) rfl ?_
          exact dk_iret (st := []) hE hR dX11_fall_43 ⟨_, rfl, (fun k_ j_ h_ => by rw [hfσ13 k_ j_ (fun w_ => h_ (w_.elim (fun x0_ => Or.inl (x0_)) (fun y0_ => y0_.elim (fun x1_ => Or.inr (Or.inl (x1_))) (fun y1_ => y1_.elim (fun x2_ => Or.inr (Or.inr (Or.inl (x2_)))) (fun y2_ => y2_.elim (fun x3_ => Or.inr (Or.inr (Or.inr (Or.inl (x3_))))) (fun y3_ => y3_.elim (fun x4_ => Or.inr (Or.inr (Or.inr (Or.inr (Or.inl (x4_)))))) (fun y4_ => y4_.elim (fun x5_ => Or.inr (Or.inr (Or.inr (Or.inr (Or.inr (Or.inl (x5_))))))) (fun y5_ => y5_.elim (fun x6_ => Or.inr (Or.inr (Or.inr (Or.inr (Or.inr (Or.inr (Or.inl (x6_)))))))) (fun y6_ => y6_.elim (fun x7_ => Or.inr (Or.inr (Or.inr (Or.inr (Or.inr (Or.inr (Or.inr (Or.inl (x7_))))))))) (fun y7_ => y7_.elim (fun x8_ => Or.inr (Or.inr (Or.inr (Or.inr (Or.inr (Or.inr (Or.inr (Or.inr (Or.inl (x8_)))))))))) (fun y8_ => y8_.elim (fun x9_ => Or.inr (Or.inr (Or.inr (Or.inr (Or.inr (Or.inr (Or.inr (Or.inr (Or.inr (Or.inl (x9_))))))))))) (fun y9_ => y9_.elim (fun x10_ => Or.inr (Or.inr (Or.inr (Or.inr (Or.inr (Or.inr (Or.inr (Or.inr (Or.inr (Or.inr (Or.inl (x10_)))))))))))) (fun y10_ => y10_.elim (fun x11_ => Or.inr (Or.inr (Or.inr (Or.inr (Or.inr (Or.inr (Or.inr (Or.inr (Or.inr (Or.inr (Or.inr (Or.inl (x11_))))))))))))) (fun y11_ => y11_.elim (fun x12_ => Or.inr (Or.inr (Or.inr (Or.inr (Or.inr (Or.inr (Or.inr (Or.inr (Or.inr (Or.inr (Or.inr (Or.inr (Or.inl (x12_)))))))))))))) (fun y12_ => y12_.elim (fun x13_ => Or.inr (Or.inr (Or.inr (Or.inr (Or.inr (Or.inr (Or.inr (Or.inr (Or.inr (Or.inr (Or.inr (Or.inr (Or.inr (Or.inl (x13_))))))))))))))) (fun y13_ => y13_.elim (fun x14_ => Or.inr (Or.inr (Or.inr (Or.inr (Or.inr (Or.inr (Or.inr (Or.inr (Or.inr (Or.inr (Or.inr (Or.inr (Or.inr (Or.inr (Or.inl (x14_)))))))))))))))) (fun y14_ => Or.inr (Or.inr (Or.inr (Or.inr (Or.inr (Or.inr (Or.inr (Or.inr (Or.inr (Or.inr (Or.inr (Or.inr (Or.inr (Or.inr (Or.inr (y14_))))))))))))))))))))))))))))))))]), trivial⟩
        · skip
          refine dk_aload_n (pc' := 36) hE dX11_fall_35 rfl rfl rfl ?_
          refine gf_11_71 (pc' := 39) hE fl_X11_491 dX11_fall_36 is_141 rfl (fun v17 hv17 htv17 hbv17 => ?_)
          refine dk_goto (tgt := 43) hE dX11_fall_39 (by decide) ?_
          exact dk_iret (st := []) hE hR dX11_fall_43 ⟨_, rfl, (fun k_ j_ h_ => by rw [hfσ13 k_ j_ (fun w_ => h_ (w_.elim (fun x0_ => Or.inl (x0_)) (fun y0_ => y0_.elim (fun x1_ => Or.inr (Or.inl (x1_))) (fun y1_ => y1_.elim (fun x2_ => Or.inr (Or.inr (Or.inl (x2_)))) (fun y2_ => y2_.elim (fun x3_ => Or.inr (Or.inr (Or.inr (Or.inl (x3_))))) (fun y3_ => y3_.elim (fun x4_ => Or.inr (Or.inr (Or.inr (Or.inr (Or.inl (x4_)))))) (fun y4_ => y4_.elim (fun x5_ => Or.inr (Or.inr (Or.inr (Or.inr (Or.inr (Or.inl (x5_))))))) (fun y5_ => y5_.elim (fun x6_ => Or.inr (Or.inr (Or.inr (Or.inr (Or.inr (Or.inr (Or.inl (x6_)))))))) (fun y6_ => y6_.elim (fun x7_ => Or.inr (Or.inr (Or.inr (Or.inr (Or.inr (Or.inr (Or.inr (Or.inl (x7_))))))))) (fun y7_ => y7_.elim (fun x8_ => Or.inr (Or.inr (Or.inr (Or.inr (Or.inr (Or.inr (Or.inr (Or.inr (Or.inl (x8_)))))))))) (fun y8_ => y8_.elim (fun x9_ => Or.inr (Or.inr (Or.inr (Or.inr (Or.inr (Or.inr (Or.inr (Or.inr (Or.inr (Or.inl (x9_))))))))))) (fun y9_ => y9_.elim (fun x10_ => Or.inr (Or.inr (Or.inr (Or.inr (Or.inr (Or.inr (Or.inr (Or.inr (Or.inr (Or.inr (Or.inl (x10_)))))))))))) (fun y10_ => y10_.elim (fun x11_ => Or.inr (Or.inr (Or.inr (Or.inr (Or.inr (Or.inr (Or.inr (Or.inr (Or.inr (Or.inr (Or.inr (Or.inl (x11_))))))))))))) (fun y11_ => y11_.elim (fun x12_ => Or.inr (Or.inr (Or.inr (Or.inr (Or.inr (Or.inr (Or.inr (Or.inr (Or.inr (Or.inr (Or.inr (Or.inr (Or.inl (x12_)))))))))))))) (fun y12_ => y12_.elim (fun x13_ => Or.inr (Or.inr (Or.inr (Or.inr (Or.inr (Or.inr (Or.inr (Or.inr (Or.inr (Or.inr (Or.inr (Or.inr (Or.inr (Or.inl (x13_))))))))))))))) (fun y13_ => y13_.elim (fun x14_ => Or.inr (Or.inr (Or.inr (Or.inr (Or.inr (Or.inr (Or.inr (Or.inr (Or.inr (Or.inr (Or.inr (Or.inr (Or.inr (Or.inr (Or.inl (x14_)))))))))))))))) (fun y14_ => Or.inr (Or.inr (Or.inr (Or.inr (Or.inr (Or.inr (Or.inr (Or.inr (Or.inr (Or.inr (Or.inr (Or.inr (Or.inr (Or.inr (Or.inr (y14_))))))))))))))))))))))))))))))))]), trivial⟩
      · skip
        refine dk_if_eq (tgt := 42) (pc' := 23) hE dX11_fall_20 (by decide) rfl (fun hc18 => ?_) (fun hc18 => absurd hc18 (by decide))
        refine dk_iconst (pc' := 43) hE dX11_fall_42 (by decide) rfl ?_
        exact dk_iret (st := []) hE hR dX11_fall_43 ⟨_, rfl, (fun k_ j_ h_ => rfl), trivial⟩
    · skip
      refine dk_if_eq (tgt := 42) (pc' := 16) hE dX11_fall_13 (by decide) rfl (fun hc19 => ?_) (fun hc19 => absurd hc19 (by decide))
      refine dk_iconst (pc' := 43) hE dX11_fall_42 (by decide) rfl ?_
      exact dk_iret (st := []) hE hR dX11_fall_43 ⟨_, rfl, (fun k_ j_ h_ => rfl), trivial⟩
  · skip
    refine dk_if_eq (tgt := 42) (pc' := 8) hE dX11_fall_5 (by decide) rfl (fun hc20 => ?_) (fun hc20 => absurd hc20 (by decide))
    refine dk_iconst (pc' := 43) hE dX11_fall_42 (by decide) rfl ?_
    exact dk_iret (st := []) hE hR dX11_fall_43 ⟨_, rfl, (fun k_ j_ h_ => rfl), trivial⟩
set_option maxHeartbeats 4000000 in
set_option maxRecDepth 20000 in
theorem ct_X11_falls (l : Launch) (G : dkG) (hGd : dk_Gd G) (p b d k : Int) : dk_Ct l G dk_Ty yX11_falls cX11_falls 5 (some .int) 10 190 190 (fun av σ => av = [(4, 141), (0, p), (0, b), (0, d), (0, k)] ∧ (MI σ)) (fun _ σ r_ σ' => ∃ z : Int, r_ = some (0, z) ∧ (∀ k_ j_ : Int, ¬ ((k_ = 141 ∧ j_ = 55) ∨ (k_ = 141 ∧ j_ = 56) ∨ (k_ = 141 ∧ j_ = 57) ∨ (k_ = 141 ∧ j_ = 58) ∨ (k_ = 141 ∧ j_ = 59) ∨ (k_ = 141 ∧ j_ = 60) ∨ (k_ = 141 ∧ j_ = 61) ∨ k_ = 168 ∨ (k_ = 141 ∧ j_ = 70) ∨ (176 ≤ k_ ∧ k_ ≤ 177) ∨ k_ = 180 ∨ (k_ = 141 ∧ j_ = 71) ∨ (k_ = 141 ∧ j_ = 72) ∨ (181 ≤ k_ ∧ k_ ≤ 183) ∨ k_ = 178 ∨ k_ = 179) → σ' k_ j_ = σ k_ j_) ∧ (True)) := by
  refine dk_enter hGd (by decide) (fun av σ hpre hok => ?_)
  obtain ⟨rfl, hG⟩ := hpre
  refine ⟨Nat.le_of_ble_eq_true rfl, fun E hE hR _ => ?_⟩
  have hi_p : dk_i32 p := dk_oki (hok _ (by simp))
  have hi_b : dk_i32 b := dk_oki (hok _ (by simp))
  have hi_d : dk_i32 d := dk_oki (hok _ (by simp))
  have hi_k : dk_i32 k := dk_oki (hok _ (by simp))
  show dk_PJ E 0 [(4, 141), (0, p), (0, b), (0, d), (0, k)] [] 190 σ
  refine dk_aload_n (pc' := 1) hE dX11_falls_0 rfl rfl rfl ?_
  refine dk_iload_n (pc' := 2) hE dX11_falls_1 rfl rfl rfl ?_
  refine dk_cV (pc' := 5) (as := [(0, p)]) hE lk_X11_333 (ct_X11_isPart l G hGd p) dX11_falls_2 rfl is_141 rfl (by decide) (Nat.le_of_ble_eq_true rfl) rfl rfl (fun r2 σ1 hr2 hor2 => ?_)
  obtain ⟨v3, rfl, hfσ1, hpr2⟩ := hr2
  have hsσ1 : σ = σ1 := (funext (fun k => funext (fun j => hfσ1 k j not_false))).symm
  subst hsσ1
  rcases hpr2 with ⟨rfl, hpr2⟩ | rfl
  · skip
    refine dk_if_eq (tgt := 48) (pc' := 8) hE dX11_falls_5 (by decide) rfl (fun hc4 => absurd hc4 (by decide)) (fun hc4 => ?_)
    refine dk_aload_n (pc' := 9) hE dX11_falls_8 rfl rfl rfl ?_
    refine dk_iload_n (pc' := 10) hE dX11_falls_9 rfl rfl rfl ?_
    refine dk_cV (pc' := 13) (as := [(0, b)]) hE lk_X11_422 (ct_X11_isBody l G hGd b) dX11_falls_10 rfl is_141 rfl (by decide) (Nat.le_of_ble_eq_true rfl) rfl rfl (fun r6 σ5 hr6 hor6 => ?_)
    obtain ⟨v7, rfl, hfσ5, hpr6⟩ := hr6
    have hsσ5 : σ = σ5 := (funext (fun k => funext (fun j => hfσ5 k j not_false))).symm
    subst hsσ5
    rcases hpr6 with ⟨rfl, hpr6⟩ | rfl
    · skip
      refine dk_if_eq (tgt := 48) (pc' := 16) hE dX11_falls_13 (by decide) rfl (fun hc8 => absurd hc8 (by decide)) (fun hc8 => ?_)
      refine dk_iload_n (pc' := 17) hE dX11_falls_16 rfl rfl rfl ?_
      refine dk_cS (pc' := 20) (as := [(0, d)]) hE lk_X11_371 (ct_X11_isDay l G hGd d) dX11_falls_17 rfl rfl (by decide) (Nat.le_of_ble_eq_true rfl) rfl rfl (fun r10 σ9 hr10 hor10 => ?_)
      obtain ⟨v11, rfl, hfσ9, hpr10⟩ := hr10
      have hsσ9 : σ = σ9 := (funext (fun k => funext (fun j => hfσ9 k j not_false))).symm
      subst hsσ9
      rcases hpr10 with ⟨rfl, hpr10⟩ | ⟨rfl, hpr10⟩
      · skip
        refine dk_if_eq (tgt := 48) (pc' := 23) hE dX11_falls_20 (by decide) rfl (fun hc12 => absurd hc12 (by decide)) (fun hc12 => ?_)
        refine dk_aload_n (pc' := 24) hE dX11_falls_23 rfl rfl rfl ?_
        refine dk_aload_n (pc' := 25) hE dX11_falls_24 rfl rfl rfl ?_
        refine dk_iload_n (pc' := 26) hE dX11_falls_25 rfl rfl rfl ?_
        refine dk_cV (pc' := 29) (as := [(0, p)]) hE lk_X11_336 (ct_X11_workOf l G hGd p) dX11_falls_26 rfl is_141 rfl (by decide) (Nat.le_of_ble_eq_true rfl) ⟨rfl, (by omega)⟩ rfl (fun r14 σ13 hr14 hor14 => ?_)
        obtain ⟨v15, rfl, hfσ13, hpr14⟩ := hr14
        have hsσ13 : σ = σ13 := (funext (fun k => funext (fun j => hfσ13 k j not_false))).symm
        subst hsσ13
        refine dk_iload_n (pc' := 30) hE dX11_falls_29 rfl rfl rfl ?_
        refine dk_iload_n (pc' := 31) hE dX11_falls_30 rfl rfl rfl ?_
        refine dk_iload (pc' := 33) hE dX11_falls_31 rfl rfl ?_
        refine dk_cV (pc' := 36) (as := [(0, v15), (0, b), (0, d), (0, k)]) hE lk_X11_506 (ct_X11_falling l G hGd v15 b d k) dX11_falls_33 rfl is_141 rfl (by decide) (Nat.le_of_ble_eq_true rfl) ⟨rfl, hG, (by omega)⟩ rfl (fun r17 σ16 hr17 hor17 => ?_)
        obtain ⟨v18, rfl, hfσ16, hpr17⟩ := hr17
        refine dk_if_eq (tgt := 48) (pc' := 39) hE dX11_falls_36 (by decide) rfl (fun hc19 => ?_) (fun hc19 => ?_)
        · skip
          refine dk_iconst (pc' := 49) hE dX11_falls_48 (by decide) rfl ?_
          exact dk_iret (st := []) hE hR dX11_falls_49 ⟨_, rfl, (fun k_ j_ h_ => by rw [hfσ16 k_ j_ (fun w_ => h_ (w_.elim (fun x0_ => Or.inl (x0_)) (fun y0_ => y0_.elim (fun x1_ => Or.inr (Or.inl (x1_))) (fun y1_ => y1_.elim (fun x2_ => Or.inr (Or.inr (Or.inl (x2_)))) (fun y2_ => y2_.elim (fun x3_ => Or.inr (Or.inr (Or.inr (Or.inl (x3_))))) (fun y3_ => y3_.elim (fun x4_ => Or.inr (Or.inr (Or.inr (Or.inr (Or.inl (x4_)))))) (fun y4_ => y4_.elim (fun x5_ => Or.inr (Or.inr (Or.inr (Or.inr (Or.inr (Or.inl (x5_))))))) (fun y5_ => y5_.elim (fun x6_ => Or.inr (Or.inr (Or.inr (Or.inr (Or.inr (Or.inr (Or.inl (x6_)))))))) (fun y6_ => y6_.elim (fun x7_ => Or.inr (Or.inr (Or.inr (Or.inr (Or.inr (Or.inr (Or.inr (Or.inl (x7_))))))))) (fun y7_ => y7_.elim (fun x8_ => Or.inr (Or.inr (Or.inr (Or.inr (Or.inr (Or.inr (Or.inr (Or.inr (Or.inl (x8_)))))))))) (fun y8_ => y8_.elim (fun x9_ => Or.inr (Or.inr (Or.inr (Or.inr (Or.inr (Or.inr (Or.inr (Or.inr (Or.inr (Or.inl (x9_))))))))))) (fun y9_ => y9_.elim (fun x10_ => Or.inr (Or.inr (Or.inr (Or.inr (Or.inr (Or.inr (Or.inr (Or.inr (Or.inr (Or.inr (Or.inl (x10_)))))))))))) (fun y10_ => y10_.elim (fun x11_ => Or.inr (Or.inr (Or.inr (Or.inr (Or.inr (Or.inr (Or.inr (Or.inr (Or.inr (Or.inr (Or.inr (Or.inl (x11_))))))))))))) (fun y11_ => y11_.elim (fun x12_ => Or.inr (Or.inr (Or.inr (Or.inr (Or.inr (Or.inr (Or.inr (Or.inr (Or.inr (Or.inr (Or.inr (Or.inr (Or.inl (x12_)))))))))))))) (fun y12_ => y12_.elim (fun x13_ => Or.inr (Or.inr (Or.inr (Or.inr (Or.inr (Or.inr (Or.inr (Or.inr (Or.inr (Or.inr (Or.inr (Or.inr (Or.inr (Or.inl (x13_))))))))))))))) (fun y13_ => y13_.elim (fun x14_ => Or.inr (Or.inr (Or.inr (Or.inr (Or.inr (Or.inr (Or.inr (Or.inr (Or.inr (Or.inr (Or.inr (Or.inr (Or.inr (Or.inr (Or.inl (x14_)))))))))))))))) (fun y14_ => Or.inr (Or.inr (Or.inr (Or.inr (Or.inr (Or.inr (Or.inr (Or.inr (Or.inr (Or.inr (Or.inr (Or.inr (Or.inr (Or.inr (Or.inr (y14_))))))))))))))))))))))))))))))))]), trivial⟩
        · skip
          refine dk_aload_n (pc' := 40) hE dX11_falls_39 rfl rfl rfl ?_
          refine gf_11_65 (pc' := 43) (w := 179) hE fl_X11_128 dX11_falls_40 is_141 rfl rfl ?_
          refine dk_iload_n (pc' := 44) hE dX11_falls_43 rfl rfl rfl ?_
          refine ga_107 (pc' := 45) hE dX11_falls_44 is_179 (by omega) rfl (fun v20 hv20 htv20 hbv20 => ?_)
          refine dk_goto (tgt := 49) hE dX11_falls_45 (by decide) ?_
          exact dk_iret (st := []) hE hR dX11_falls_49 ⟨_, rfl, (fun k_ j_ h_ => by rw [hfσ16 k_ j_ (fun w_ => h_ (w_.elim (fun x0_ => Or.inl (x0_)) (fun y0_ => y0_.elim (fun x1_ => Or.inr (Or.inl (x1_))) (fun y1_ => y1_.elim (fun x2_ => Or.inr (Or.inr (Or.inl (x2_)))) (fun y2_ => y2_.elim (fun x3_ => Or.inr (Or.inr (Or.inr (Or.inl (x3_))))) (fun y3_ => y3_.elim (fun x4_ => Or.inr (Or.inr (Or.inr (Or.inr (Or.inl (x4_)))))) (fun y4_ => y4_.elim (fun x5_ => Or.inr (Or.inr (Or.inr (Or.inr (Or.inr (Or.inl (x5_))))))) (fun y5_ => y5_.elim (fun x6_ => Or.inr (Or.inr (Or.inr (Or.inr (Or.inr (Or.inr (Or.inl (x6_)))))))) (fun y6_ => y6_.elim (fun x7_ => Or.inr (Or.inr (Or.inr (Or.inr (Or.inr (Or.inr (Or.inr (Or.inl (x7_))))))))) (fun y7_ => y7_.elim (fun x8_ => Or.inr (Or.inr (Or.inr (Or.inr (Or.inr (Or.inr (Or.inr (Or.inr (Or.inl (x8_)))))))))) (fun y8_ => y8_.elim (fun x9_ => Or.inr (Or.inr (Or.inr (Or.inr (Or.inr (Or.inr (Or.inr (Or.inr (Or.inr (Or.inl (x9_))))))))))) (fun y9_ => y9_.elim (fun x10_ => Or.inr (Or.inr (Or.inr (Or.inr (Or.inr (Or.inr (Or.inr (Or.inr (Or.inr (Or.inr (Or.inl (x10_)))))))))))) (fun y10_ => y10_.elim (fun x11_ => Or.inr (Or.inr (Or.inr (Or.inr (Or.inr (Or.inr (Or.inr (Or.inr (Or.inr (Or.inr (Or.inr (Or.inl (x11_))))))))))))) (fun y11_ => y11_.elim (fun x12_ => Or.inr (Or.inr (Or.inr (Or.inr (Or.inr (Or.inr (Or.inr (Or.inr (Or.inr (Or.inr (Or.inr (Or.inr (Or.inl (x12_)))))))))))))) (fun y12_ => y12_.elim (fun x13_ => Or.inr (Or.inr (Or.inr (Or.inr (Or.inr (Or.inr (Or.inr (Or.inr (Or.inr (Or.inr (Or.inr (Or.inr (Or.inr (Or.inl (x13_))))))))))))))) (fun y13_ => y13_.elim (fun x14_ => Or.inr (Or.inr (Or.inr (Or.inr (Or.inr (Or.inr (Or.inr (Or.inr (Or.inr (Or.inr (Or.inr (Or.inr (Or.inr (Or.inr (Or.inl (x14_)))))))))))))))) (fun y14_ => Or.inr (Or.inr (Or.inr (Or.inr (Or.inr (Or.inr (Or.inr (Or.inr (Or.inr (Or.inr (Or.inr (Or.inr (Or.inr (Or.inr (Or.inr (y14_))))))))))))))))))))))))))))))))]), trivial⟩
      · skip
        refine dk_if_eq (tgt := 48) (pc' := 23) hE dX11_falls_20 (by decide) rfl (fun hc21 => ?_) (fun hc21 => absurd hc21 (by decide))
        refine dk_iconst (pc' := 49) hE dX11_falls_48 (by decide) rfl ?_
        exact dk_iret (st := []) hE hR dX11_falls_49 ⟨_, rfl, (fun k_ j_ h_ => rfl), trivial⟩
    · skip
      refine dk_if_eq (tgt := 48) (pc' := 16) hE dX11_falls_13 (by decide) rfl (fun hc22 => ?_) (fun hc22 => absurd hc22 (by decide))
      refine dk_iconst (pc' := 49) hE dX11_falls_48 (by decide) rfl ?_
      exact dk_iret (st := []) hE hR dX11_falls_49 ⟨_, rfl, (fun k_ j_ h_ => rfl), trivial⟩
  · skip
    refine dk_if_eq (tgt := 48) (pc' := 8) hE dX11_falls_5 (by decide) rfl (fun hc23 => ?_) (fun hc23 => absurd hc23 (by decide))
    refine dk_iconst (pc' := 49) hE dX11_falls_48 (by decide) rfl ?_
    exact dk_iret (st := []) hE hR dX11_falls_49 ⟨_, rfl, (fun k_ j_ h_ => rfl), trivial⟩
set_option maxHeartbeats 4000000 in
set_option maxRecDepth 20000 in
theorem ct_X11_learn (l : Launch) (G : dkG) (hGd : dk_Gd G) (b p d k : Int) : dk_Ct l G dk_Ty yX11_learn cX11_learn 9 (some .int) 6 190 190 (fun av σ => av = [(4, 141), (0, b), (0, p), (0, d), (0, k)] ∧ (MI σ)) (fun _ σ r_ σ' => ∃ z : Int, r_ = some (0, z) ∧ (∀ k_ j_ : Int, ¬ ((k_ = 141 ∧ j_ = 55) ∨ (k_ = 141 ∧ j_ = 56) ∨ (k_ = 141 ∧ j_ = 57) ∨ (k_ = 141 ∧ j_ = 58) ∨ (k_ = 141 ∧ j_ = 59) ∨ (k_ = 141 ∧ j_ = 60) ∨ (k_ = 141 ∧ j_ = 61) ∨ k_ = 168) → σ' k_ j_ = σ k_ j_) ∧ (True)) := by
  refine dk_enter hGd (by decide) (fun av σ hpre hok => ?_)
  obtain ⟨rfl, hG⟩ := hpre
  refine ⟨Nat.le_of_ble_eq_true rfl, fun E hE hR _ => ?_⟩
  have hi_b : dk_i32 b := dk_oki (hok _ (by simp))
  have hi_p : dk_i32 p := dk_oki (hok _ (by simp))
  have hi_d : dk_i32 d := dk_oki (hok _ (by simp))
  have hi_k : dk_i32 k := dk_oki (hok _ (by simp))
  show dk_PJ E 0 [(4, 141), (0, b), (0, p), (0, d), (0, k), (9, 0), (9, 0), (9, 0), (9, 0)] [] 190 σ
  refine dk_aload_n (pc' := 1) hE dX11_learn_0 rfl rfl rfl ?_
  refine dk_iload_n (pc' := 2) hE dX11_learn_1 rfl rfl rfl ?_
  refine dk_cV (pc' := 5) (as := [(0, b)]) hE lk_X11_422 (ct_X11_isBody l G hGd b) dX11_learn_2 rfl is_141 rfl (by decide) (Nat.le_of_ble_eq_true rfl) rfl rfl (fun r2 σ1 hr2 hor2 => ?_)
  obtain ⟨v3, rfl, hfσ1, hpr2⟩ := hr2
  have hsσ1 : σ = σ1 := (funext (fun k => funext (fun j => hfσ1 k j not_false))).symm
  subst hsσ1
  rcases hpr2 with ⟨rfl, hpr2⟩ | rfl
  · skip
    refine dk_if_eq (tgt := 23) (pc' := 8) hE dX11_learn_5 (by decide) rfl (fun hc4 => absurd hc4 (by decide)) (fun hc4 => ?_)
    refine dk_aload_n (pc' := 9) hE dX11_learn_8 rfl rfl rfl ?_
    refine dk_iload_n (pc' := 10) hE dX11_learn_9 rfl rfl rfl ?_
    refine dk_cV (pc' := 13) (as := [(0, p)]) hE lk_X11_333 (ct_X11_isPart l G hGd p) dX11_learn_10 rfl is_141 rfl (by decide) (Nat.le_of_ble_eq_true rfl) rfl rfl (fun r6 σ5 hr6 hor6 => ?_)
    obtain ⟨v7, rfl, hfσ5, hpr6⟩ := hr6
    have hsσ5 : σ = σ5 := (funext (fun k => funext (fun j => hfσ5 k j not_false))).symm
    subst hsσ5
    rcases hpr6 with ⟨rfl, hpr6⟩ | rfl
    · skip
      refine dk_if_eq (tgt := 23) (pc' := 16) hE dX11_learn_13 (by decide) rfl (fun hc8 => absurd hc8 (by decide)) (fun hc8 => ?_)
      refine dk_iload_n (pc' := 17) hE dX11_learn_16 rfl rfl rfl ?_
      refine dk_cS (pc' := 20) (as := [(0, d)]) hE lk_X11_371 (ct_X11_isDay l G hGd d) dX11_learn_17 rfl rfl (by decide) (Nat.le_of_ble_eq_true rfl) rfl rfl (fun r10 σ9 hr10 hor10 => ?_)
      obtain ⟨v11, rfl, hfσ9, hpr10⟩ := hr10
      have hsσ9 : σ = σ9 := (funext (fun k => funext (fun j => hfσ9 k j not_false))).symm
      subst hsσ9
      rcases hpr10 with ⟨rfl, hpr10⟩ | ⟨rfl, hpr10⟩
      · skip
        refine dk_if_ne (tgt := 25) (pc' := 23) hE dX11_learn_20 (by decide) rfl (fun hc12 => ?_) (fun hc12 => absurd hc12 (by decide))
        refine dk_aload_n (pc' := 26) hE dX11_learn_25 rfl rfl rfl ?_
        refine dk_iload_n (pc' := 27) hE dX11_learn_26 rfl rfl rfl ?_
        refine dk_iload_n (pc' := 28) hE dX11_learn_27 rfl rfl rfl ?_
        refine dk_iload_n (pc' := 29) hE dX11_learn_28 rfl rfl rfl ?_
        refine dk_iload (pc' := 31) hE dX11_learn_29 rfl rfl ?_
        refine dk_cV (pc' := 34) (as := [(0, b), (0, p), (0, d), (0, k)]) hE lk_X11_468 (ct_X11_knowsIt l G hGd b p d k) dX11_learn_31 rfl is_141 rfl (by decide) (Nat.le_of_ble_eq_true rfl) rfl rfl (fun r14 σ13 hr14 hor14 => ?_)
        obtain ⟨v15, rfl, hfσ13, hpr14⟩ := hr14
        have hsσ13 : σ = σ13 := (funext (fun k => funext (fun j => hfσ13 k j not_false))).symm
        subst hsσ13
        refine dk_if_eq (tgt := 39) (pc' := 37) hE dX11_learn_34 (by decide) rfl (fun hc16 => ?_) (fun hc16 => ?_)
        · skip
          refine dk_iconst (pc' := 40) hE dX11_learn_39 (by decide) rfl ?_
          refine dk_istore (pc' := 42) (ls' := [(4, 141), (0, b), (0, p), (0, d), (0, k), (0, 0), (9, 0), (9, 0), (9, 0)]) hE dX11_learn_40 rfl (by decide) rfl ?_
          refine dk_iconst (pc' := 43) hE dX11_learn_42 (by decide) rfl ?_
          refine dk_istore (pc' := 45) (ls' := [(4, 141), (0, b), (0, p), (0, d), (0, k), (0, 0), (0, 0), (9, 0), (9, 0)]) hE dX11_learn_43 rfl (by decide) rfl ?_
          have lp45 : ∀ (N_ : Nat) (x i : Int) (σ45c : dkS), (2147483648 - i).toNat < N_ → ((∀ k_ j_ : Int, ¬ ((k_ = 141 ∧ j_ = 55) ∨ (k_ = 141 ∧ j_ = 56) ∨ (k_ = 141 ∧ j_ = 57) ∨ (k_ = 141 ∧ j_ = 58) ∨ (k_ = 141 ∧ j_ = 59) ∨ (k_ = 141 ∧ j_ = 60) ∨ (k_ = 141 ∧ j_ = 61) ∨ k_ = 168) → σ45c k_ j_ = σ k_ j_)) → (MI σ45c) → (0 ≤ i ∧ 0 ≤ x ∧ x ≤ 1) → dk_PJ E 45 [(4, 141), (0, b), (0, p), (0, d), (0, k), (0, x), (0, i), (9, 0), (9, 0)] [] 190 σ45c := by
            intro N45
            induction N45 with
            | zero => intro x i σ45c hm; exact absurd hm (Nat.not_lt_zero _)
            | succ N45 ih45 =>
              intro x i σ45c hm45 hF45 hG45 hi
              refine dk_iload (pc' := 47) hE dX11_learn_45 rfl rfl ?_
              refine dk_aload_n (pc' := 48) hE dX11_learn_47 rfl rfl rfl ?_
              refine gf_11_52 (pc' := 51) hE fl_X11_416 dX11_learn_48 is_141 rfl (fun v17 hv17 htv17 hbv17 => ?_)
              refine dk_icmp_ge (tgt := 137) (pc' := 54) hE dX11_learn_51 (by decide) rfl (fun hc18 => ?_) (fun hc18 => ?_)
              · skip
                refine dk_iload (pc' := 139) hE dX11_learn_137 rfl rfl ?_
                refine dk_if_ne (tgt := 144) (pc' := 142) hE dX11_learn_139 (by decide) rfl (fun hc19 => ?_) (fun hc19 => ?_)
                · skip
                  refine dk_iconst (pc' := 145) hE dX11_learn_144 (by decide) rfl ?_
                  refine dk_istore (pc' := 147) (ls' := [(4, 141), (0, b), (0, p), (0, d), (0, k), (0, x), (0, 0), (9, 0), (9, 0)]) hE dX11_learn_145 rfl (by decide) rfl ?_
                  refine dk_iconst (pc' := 148) hE dX11_learn_147 (by decide) rfl ?_
                  refine dk_istore (pc' := 150) (ls' := [(4, 141), (0, b), (0, p), (0, d), (0, k), (0, x), (0, 0), (0, 0), (9, 0)]) hE dX11_learn_148 rfl (by decide) rfl ?_
                  have lp150 : ∀ (N_ : Nat) (m i : Int) (σ150c : dkS), (2147483648 - i).toNat < N_ → ((∀ k_ j_ : Int, ¬ (False) → σ150c k_ j_ = σ45c k_ j_)) → (0 ≤ i ∧ 0 ≤ m ∧ m ≤ 32) → dk_PJ E 150 [(4, 141), (0, b), (0, p), (0, d), (0, k), (0, x), (0, m), (0, i), (9, 0)] [] 190 σ150c := by
                    intro N150
                    induction N150 with
                    | zero => intro m i σ150c hm; exact absurd hm (Nat.not_lt_zero _)
                    | succ N150 ih150 =>
                      intro m i σ150c hm150 hF150 hi
                      refine dk_iload (pc' := 152) hE dX11_learn_150 rfl rfl ?_
                      refine dk_aload_n (pc' := 153) hE dX11_learn_152 rfl rfl rfl ?_
                      refine dk_cV (pc' := 156) (as := []) hE lk_X11_319 (ct_X11_parts l G hGd) dX11_learn_153 rfl is_141 rfl (by decide) (Nat.le_of_ble_eq_true rfl) rfl rfl (fun r21 σ20 hr21 hor21 => ?_)
                      obtain ⟨v22, rfl, hfσ20, hpr21⟩ := hr21
                      have hsσ20 : σ150c = σ20 := (funext (fun k => funext (fun j => hfσ20 k j not_false))).symm
                      subst hsσ20
                      refine dk_icmp_ge (tgt := 207) (pc' := 159) hE dX11_learn_156 (by decide) rfl (fun hc23 => ?_) (fun hc23 => ?_)
                      · skip
                        refine dk_aload_n (pc' := 208) hE dX11_learn_207 rfl rfl rfl ?_
                        refine dk_iload_n (pc' := 209) hE dX11_learn_208 rfl rfl rfl ?_
                        refine dk_cV (pc' := 212) (as := [(0, p)]) hE lk_X11_339 (ct_X11_countsOf l G hGd p) dX11_learn_209 rfl is_141 rfl (by decide) (Nat.le_of_ble_eq_true rfl) ⟨rfl, (by omega)⟩ rfl (fun r25 σ24 hr25 hor25 => ?_)
                        obtain ⟨v26, rfl, hfσ24, hpr25⟩ := hr25
                        have hsσ24 : σ150c = σ24 := (funext (fun k => funext (fun j => hfσ24 k j not_false))).symm
                        subst hsσ24
                        refine dk_iload (pc' := 214) hE dX11_learn_212 rfl rfl ?_
                        obtain ⟨v27, hv27⟩ : ∃ z : Int, z = v26 - m := ⟨_, rfl⟩
                        refine dk_isub (pc' := 215) hE dX11_learn_214 hv27.symm (by omega) rfl ?_
                        exact dk_iret (st := []) hE hR dX11_learn_215 ⟨_, rfl, (fun k_ j_ h_ => by rw [hF150 k_ j_ not_false, hF45 k_ j_ (fun w_ => h_ (w_.elim (fun x0_ => Or.inl (x0_)) (fun y0_ => y0_.elim (fun x1_ => Or.inr (Or.inl (x1_))) (fun y1_ => y1_.elim (fun x2_ => Or.inr (Or.inr (Or.inl (x2_)))) (fun y2_ => y2_.elim (fun x3_ => Or.inr (Or.inr (Or.inr (Or.inl (x3_))))) (fun y3_ => y3_.elim (fun x4_ => Or.inr (Or.inr (Or.inr (Or.inr (Or.inl (x4_)))))) (fun y4_ => y4_.elim (fun x5_ => Or.inr (Or.inr (Or.inr (Or.inr (Or.inr (Or.inl (x5_))))))) (fun y5_ => y5_.elim (fun x6_ => Or.inr (Or.inr (Or.inr (Or.inr (Or.inr (Or.inr (Or.inl (x6_)))))))) (fun y6_ => Or.inr (Or.inr (Or.inr (Or.inr (Or.inr (Or.inr (Or.inr (y6_))))))))))))))))]), trivial⟩
                      · skip
                        refine dk_aload_n (pc' := 160) hE dX11_learn_159 rfl rfl rfl ?_
                        refine dk_iload_n (pc' := 161) hE dX11_learn_160 rfl rfl rfl ?_
                        refine dk_iload (pc' := 163) hE dX11_learn_161 rfl rfl ?_
                        refine dk_iload_n (pc' := 164) hE dX11_learn_163 rfl rfl rfl ?_
                        refine dk_iload (pc' := 166) hE dX11_learn_164 rfl rfl ?_
                        refine dk_cV (pc' := 169) (as := [(0, b), (0, i), (0, d), (0, k)]) hE lk_X11_468 (ct_X11_knowsIt l G hGd b i d k) dX11_learn_166 rfl is_141 rfl (by decide) (Nat.le_of_ble_eq_true rfl) rfl rfl (fun r29 σ28 hr29 hor29 => ?_)
                        obtain ⟨v30, rfl, hfσ28, hpr29⟩ := hr29
                        have hsσ28 : σ150c = σ28 := (funext (fun k => funext (fun j => hfσ28 k j not_false))).symm
                        subst hsσ28
                        refine dk_if_ne (tgt := 175) (pc' := 172) hE dX11_learn_169 (by decide) rfl (fun hc31 => ?_) (fun hc31 => ?_)
                        · skip
                          refine dk_aload_n (pc' := 176) hE dX11_learn_175 rfl rfl rfl ?_
                          refine dk_iload_n (pc' := 177) hE dX11_learn_176 rfl rfl rfl ?_
                          refine dk_iload (pc' := 179) hE dX11_learn_177 rfl rfl ?_
                          refine dk_iconst (pc' := 180) hE dX11_learn_179 (by decide) rfl ?_
                          refine dk_cV (pc' := 183) (as := [(0, p), (0, i), (0, 0)]) hE lk_X11_365 (ct_X11_likeOf l G hGd p i 0) dX11_learn_180 rfl is_141 rfl (by decide) (Nat.le_of_ble_eq_true rfl) ⟨rfl, (by omega), (by omega), (by omega)⟩ rfl (fun r33 σ32 hr33 hor33 => ?_)
                          obtain ⟨v34, rfl, hfσ32, hpr33⟩ := hr33
                          have hsσ32 : σ150c = σ32 := (funext (fun k => funext (fun j => hfσ32 k j not_false))).symm
                          subst hsσ32
                          refine dk_istore (pc' := 185) (ls' := [(4, 141), (0, b), (0, p), (0, d), (0, k), (0, x), (0, m), (0, i), (0, v34)]) hE dX11_learn_183 rfl (by decide) rfl ?_
                          refine dk_iload (pc' := 187) hE dX11_learn_185 rfl rfl ?_
                          refine dk_iload (pc' := 189) hE dX11_learn_187 rfl rfl ?_
                          refine dk_icmp_le (tgt := 197) (pc' := 192) hE dX11_learn_189 (by decide) rfl (fun hc35 => ?_) (fun hc35 => ?_)
                          · skip
                            refine dk_iload (pc' := 199) hE dX11_learn_197 rfl rfl ?_
                            refine dk_istore (pc' := 201) (ls' := [(4, 141), (0, b), (0, p), (0, d), (0, k), (0, x), (0, m), (0, i), (0, v34)]) hE dX11_learn_199 rfl (by decide) rfl ?_
                            obtain ⟨v36, hv36⟩ : ∃ z : Int, z = i + 1 := ⟨_, rfl⟩
                            refine dk_iinc (pc' := 204) (ls' := [(4, 141), (0, b), (0, p), (0, d), (0, k), (0, x), (0, m), (0, v36), (0, v34)]) hE dX11_learn_201 rfl hv36.symm (by omega) rfl (by decide) rfl ?_
                            refine dk_goto (tgt := 150) hE dX11_learn_204 (by decide) ?_
                            refine dk_drop (ls' := [(4, 141), (0, b), (0, p), (0, d), (0, k), (0, x), (0, m), (0, v36), (9, 0)]) [true, true, true, true, true, true, true, true, false] rfl ?_
                            exact ih150 m v36 σ150c (by omega) (fun k_ j_ h_ => by rw [hF150 k_ j_ not_false]) (by omega)
                          · skip
                            refine dk_iload (pc' := 194) hE dX11_learn_192 rfl rfl ?_
                            refine dk_goto (tgt := 199) hE dX11_learn_194 (by decide) ?_
                            refine dk_istore (pc' := 201) (ls' := [(4, 141), (0, b), (0, p), (0, d), (0, k), (0, x), (0, v34), (0, i), (0, v34)]) hE dX11_learn_199 rfl (by decide) rfl ?_
                            obtain ⟨v37, hv37⟩ : ∃ z : Int, z = i + 1 := ⟨_, rfl⟩
                            refine dk_iinc (pc' := 204) (ls' := [(4, 141), (0, b), (0, p), (0, d), (0, k), (0, x), (0, v34), (0, v37), (0, v34)]) hE dX11_learn_201 rfl hv37.symm (by omega) rfl (by decide) rfl ?_
                            refine dk_goto (tgt := 150) hE dX11_learn_204 (by decide) ?_
                            refine dk_drop (ls' := [(4, 141), (0, b), (0, p), (0, d), (0, k), (0, x), (0, v34), (0, v37), (9, 0)]) [true, true, true, true, true, true, true, true, false] rfl ?_
                            exact ih150 v34 v37 σ150c (by omega) (fun k_ j_ h_ => by rw [hF150 k_ j_ not_false]) (by omega)
                        · skip
                          refine dk_goto (tgt := 201) hE dX11_learn_172 (by decide) ?_
                          obtain ⟨v38, hv38⟩ : ∃ z : Int, z = i + 1 := ⟨_, rfl⟩
                          refine dk_iinc (pc' := 204) (ls' := [(4, 141), (0, b), (0, p), (0, d), (0, k), (0, x), (0, m), (0, v38), (9, 0)]) hE dX11_learn_201 rfl hv38.symm (by omega) rfl (by decide) rfl ?_
                          refine dk_goto (tgt := 150) hE dX11_learn_204 (by decide) ?_
                          exact ih150 m v38 σ150c (by omega) (fun k_ j_ h_ => by rw [hF150 k_ j_ not_false]) (by omega)
                  exact lp150 _ 0 0 σ45c (Nat.lt_succ_self _) (fun k_ j_ h_ => rfl) (by omega)
                · skip
                  refine dk_iconst (pc' := 143) hE dX11_learn_142 (by decide) rfl ?_
                  exact dk_iret (st := []) hE hR dX11_learn_143 ⟨_, rfl, (fun k_ j_ h_ => by rw [hF45 k_ j_ (fun w_ => h_ (w_.elim (fun x0_ => Or.inl (x0_)) (fun y0_ => y0_.elim (fun x1_ => Or.inr (Or.inl (x1_))) (fun y1_ => y1_.elim (fun x2_ => Or.inr (Or.inr (Or.inl (x2_)))) (fun y2_ => y2_.elim (fun x3_ => Or.inr (Or.inr (Or.inr (Or.inl (x3_))))) (fun y3_ => y3_.elim (fun x4_ => Or.inr (Or.inr (Or.inr (Or.inr (Or.inl (x4_)))))) (fun y4_ => y4_.elim (fun x5_ => Or.inr (Or.inr (Or.inr (Or.inr (Or.inr (Or.inl (x5_))))))) (fun y5_ => y5_.elim (fun x6_ => Or.inr (Or.inr (Or.inr (Or.inr (Or.inr (Or.inr (Or.inl (x6_)))))))) (fun y6_ => Or.inr (Or.inr (Or.inr (Or.inr (Or.inr (Or.inr (Or.inr (y6_))))))))))))))))]), trivial⟩
              · skip
                refine dk_iload (pc' := 56) hE dX11_learn_54 rfl rfl ?_
                refine dk_if_ne (tgt := 137) (pc' := 59) hE dX11_learn_56 (by decide) rfl (fun hc39 => ?_) (fun hc39 => ?_)
                · skip
                  refine dk_iload (pc' := 139) hE dX11_learn_137 rfl rfl ?_
                  refine dk_if_ne (tgt := 144) (pc' := 142) hE dX11_learn_139 (by decide) rfl (fun hc40 => ?_) (fun hc40 => ?_)
                  · skip
                    refine dk_iconst (pc' := 145) hE dX11_learn_144 (by decide) rfl ?_
                    refine dk_istore (pc' := 147) (ls' := [(4, 141), (0, b), (0, p), (0, d), (0, k), (0, x), (0, 0), (9, 0), (9, 0)]) hE dX11_learn_145 rfl (by decide) rfl ?_
                    refine dk_iconst (pc' := 148) hE dX11_learn_147 (by decide) rfl ?_
                    refine dk_istore (pc' := 150) (ls' := [(4, 141), (0, b), (0, p), (0, d), (0, k), (0, x), (0, 0), (0, 0), (9, 0)]) hE dX11_learn_148 rfl (by decide) rfl ?_
                    have lp150 : ∀ (N_ : Nat) (m i : Int) (σ150c : dkS), (2147483648 - i).toNat < N_ → ((∀ k_ j_ : Int, ¬ (False) → σ150c k_ j_ = σ45c k_ j_)) → (0 ≤ i ∧ 0 ≤ m ∧ m ≤ 32) → dk_PJ E 150 [(4, 141), (0, b), (0, p), (0, d), (0, k), (0, x), (0, m), (0, i), (9, 0)] [] 190 σ150c := by
                      intro N150
                      induction N150 with
                      | zero => intro m i σ150c hm; exact absurd hm (Nat.not_lt_zero _)
                      | succ N150 ih150 =>
                        intro m i σ150c hm150 hF150 hi
                        refine dk_iload (pc' := 152) hE dX11_learn_150 rfl rfl ?_
                        refine dk_aload_n (pc' := 153) hE dX11_learn_152 rfl rfl rfl ?_
                        refine dk_cV (pc' := 156) (as := []) hE lk_X11_319 (ct_X11_parts l G hGd) dX11_learn_153 rfl is_141 rfl (by decide) (Nat.le_of_ble_eq_true rfl) rfl rfl (fun r42 σ41 hr42 hor42 => ?_)
                        obtain ⟨v43, rfl, hfσ41, hpr42⟩ := hr42
                        have hsσ41 : σ150c = σ41 := (funext (fun k => funext (fun j => hfσ41 k j not_false))).symm
                        subst hsσ41
                        refine dk_icmp_ge (tgt := 207) (pc' := 159) hE dX11_learn_156 (by decide) rfl (fun hc44 => ?_) (fun hc44 => ?_)
                        · skip
                          refine dk_aload_n (pc' := 208) hE dX11_learn_207 rfl rfl rfl ?_
                          refine dk_iload_n (pc' := 209) hE dX11_learn_208 rfl rfl rfl ?_
                          refine dk_cV (pc' := 212) (as := [(0, p)]) hE lk_X11_339 (ct_X11_countsOf l G hGd p) dX11_learn_209 rfl is_141 rfl (by decide) (Nat.le_of_ble_eq_true rfl) ⟨rfl, (by omega)⟩ rfl (fun r46 σ45 hr46 hor46 => ?_)
                          obtain ⟨v47, rfl, hfσ45, hpr46⟩ := hr46
                          have hsσ45 : σ150c = σ45 := (funext (fun k => funext (fun j => hfσ45 k j not_false))).symm
                          subst hsσ45
                          refine dk_iload (pc' := 214) hE dX11_learn_212 rfl rfl ?_
                          obtain ⟨v48, hv48⟩ : ∃ z : Int, z = v47 - m := ⟨_, rfl⟩
                          refine dk_isub (pc' := 215) hE dX11_learn_214 hv48.symm (by omega) rfl ?_
                          exact dk_iret (st := []) hE hR dX11_learn_215 ⟨_, rfl, (fun k_ j_ h_ => by rw [hF150 k_ j_ not_false, hF45 k_ j_ (fun w_ => h_ (w_.elim (fun x0_ => Or.inl (x0_)) (fun y0_ => y0_.elim (fun x1_ => Or.inr (Or.inl (x1_))) (fun y1_ => y1_.elim (fun x2_ => Or.inr (Or.inr (Or.inl (x2_)))) (fun y2_ => y2_.elim (fun x3_ => Or.inr (Or.inr (Or.inr (Or.inl (x3_))))) (fun y3_ => y3_.elim (fun x4_ => Or.inr (Or.inr (Or.inr (Or.inr (Or.inl (x4_)))))) (fun y4_ => y4_.elim (fun x5_ => Or.inr (Or.inr (Or.inr (Or.inr (Or.inr (Or.inl (x5_))))))) (fun y5_ => y5_.elim (fun x6_ => Or.inr (Or.inr (Or.inr (Or.inr (Or.inr (Or.inr (Or.inl (x6_)))))))) (fun y6_ => Or.inr (Or.inr (Or.inr (Or.inr (Or.inr (Or.inr (Or.inr (y6_))))))))))))))))]), trivial⟩
                        · skip
                          refine dk_aload_n (pc' := 160) hE dX11_learn_159 rfl rfl rfl ?_
                          refine dk_iload_n (pc' := 161) hE dX11_learn_160 rfl rfl rfl ?_
                          refine dk_iload (pc' := 163) hE dX11_learn_161 rfl rfl ?_
                          refine dk_iload_n (pc' := 164) hE dX11_learn_163 rfl rfl rfl ?_
                          refine dk_iload (pc' := 166) hE dX11_learn_164 rfl rfl ?_
                          refine dk_cV (pc' := 169) (as := [(0, b), (0, i), (0, d), (0, k)]) hE lk_X11_468 (ct_X11_knowsIt l G hGd b i d k) dX11_learn_166 rfl is_141 rfl (by decide) (Nat.le_of_ble_eq_true rfl) rfl rfl (fun r50 σ49 hr50 hor50 => ?_)
                          obtain ⟨v51, rfl, hfσ49, hpr50⟩ := hr50
                          have hsσ49 : σ150c = σ49 := (funext (fun k => funext (fun j => hfσ49 k j not_false))).symm
                          subst hsσ49
                          refine dk_if_ne (tgt := 175) (pc' := 172) hE dX11_learn_169 (by decide) rfl (fun hc52 => ?_) (fun hc52 => ?_)
                          · skip
                            refine dk_aload_n (pc' := 176) hE dX11_learn_175 rfl rfl rfl ?_
                            refine dk_iload_n (pc' := 177) hE dX11_learn_176 rfl rfl rfl ?_
                            refine dk_iload (pc' := 179) hE dX11_learn_177 rfl rfl ?_
                            refine dk_iconst (pc' := 180) hE dX11_learn_179 (by decide) rfl ?_
                            refine dk_cV (pc' := 183) (as := [(0, p), (0, i), (0, 0)]) hE lk_X11_365 (ct_X11_likeOf l G hGd p i 0) dX11_learn_180 rfl is_141 rfl (by decide) (Nat.le_of_ble_eq_true rfl) ⟨rfl, (by omega), (by omega), (by omega)⟩ rfl (fun r54 σ53 hr54 hor54 => ?_)
                            obtain ⟨v55, rfl, hfσ53, hpr54⟩ := hr54
                            have hsσ53 : σ150c = σ53 := (funext (fun k => funext (fun j => hfσ53 k j not_false))).symm
                            subst hsσ53
                            refine dk_istore (pc' := 185) (ls' := [(4, 141), (0, b), (0, p), (0, d), (0, k), (0, x), (0, m), (0, i), (0, v55)]) hE dX11_learn_183 rfl (by decide) rfl ?_
                            refine dk_iload (pc' := 187) hE dX11_learn_185 rfl rfl ?_
                            refine dk_iload (pc' := 189) hE dX11_learn_187 rfl rfl ?_
                            refine dk_icmp_le (tgt := 197) (pc' := 192) hE dX11_learn_189 (by decide) rfl (fun hc56 => ?_) (fun hc56 => ?_)
                            · skip
                              refine dk_iload (pc' := 199) hE dX11_learn_197 rfl rfl ?_
                              refine dk_istore (pc' := 201) (ls' := [(4, 141), (0, b), (0, p), (0, d), (0, k), (0, x), (0, m), (0, i), (0, v55)]) hE dX11_learn_199 rfl (by decide) rfl ?_
                              obtain ⟨v57, hv57⟩ : ∃ z : Int, z = i + 1 := ⟨_, rfl⟩
                              refine dk_iinc (pc' := 204) (ls' := [(4, 141), (0, b), (0, p), (0, d), (0, k), (0, x), (0, m), (0, v57), (0, v55)]) hE dX11_learn_201 rfl hv57.symm (by omega) rfl (by decide) rfl ?_
                              refine dk_goto (tgt := 150) hE dX11_learn_204 (by decide) ?_
                              refine dk_drop (ls' := [(4, 141), (0, b), (0, p), (0, d), (0, k), (0, x), (0, m), (0, v57), (9, 0)]) [true, true, true, true, true, true, true, true, false] rfl ?_
                              exact ih150 m v57 σ150c (by omega) (fun k_ j_ h_ => by rw [hF150 k_ j_ not_false]) (by omega)
                            · skip
                              refine dk_iload (pc' := 194) hE dX11_learn_192 rfl rfl ?_
                              refine dk_goto (tgt := 199) hE dX11_learn_194 (by decide) ?_
                              refine dk_istore (pc' := 201) (ls' := [(4, 141), (0, b), (0, p), (0, d), (0, k), (0, x), (0, v55), (0, i), (0, v55)]) hE dX11_learn_199 rfl (by decide) rfl ?_
                              obtain ⟨v58, hv58⟩ : ∃ z : Int, z = i + 1 := ⟨_, rfl⟩
                              refine dk_iinc (pc' := 204) (ls' := [(4, 141), (0, b), (0, p), (0, d), (0, k), (0, x), (0, v55), (0, v58), (0, v55)]) hE dX11_learn_201 rfl hv58.symm (by omega) rfl (by decide) rfl ?_
                              refine dk_goto (tgt := 150) hE dX11_learn_204 (by decide) ?_
                              refine dk_drop (ls' := [(4, 141), (0, b), (0, p), (0, d), (0, k), (0, x), (0, v55), (0, v58), (9, 0)]) [true, true, true, true, true, true, true, true, false] rfl ?_
                              exact ih150 v55 v58 σ150c (by omega) (fun k_ j_ h_ => by rw [hF150 k_ j_ not_false]) (by omega)
                          · skip
                            refine dk_goto (tgt := 201) hE dX11_learn_172 (by decide) ?_
                            obtain ⟨v59, hv59⟩ : ∃ z : Int, z = i + 1 := ⟨_, rfl⟩
                            refine dk_iinc (pc' := 204) (ls' := [(4, 141), (0, b), (0, p), (0, d), (0, k), (0, x), (0, m), (0, v59), (9, 0)]) hE dX11_learn_201 rfl hv59.symm (by omega) rfl (by decide) rfl ?_
                            refine dk_goto (tgt := 150) hE dX11_learn_204 (by decide) ?_
                            exact ih150 m v59 σ150c (by omega) (fun k_ j_ h_ => by rw [hF150 k_ j_ not_false]) (by omega)
                    exact lp150 _ 0 0 σ45c (Nat.lt_succ_self _) (fun k_ j_ h_ => rfl) (by omega)
                  · skip
                    refine dk_iconst (pc' := 143) hE dX11_learn_142 (by decide) rfl ?_
                    exact dk_iret (st := []) hE hR dX11_learn_143 ⟨_, rfl, (fun k_ j_ h_ => by rw [hF45 k_ j_ (fun w_ => h_ (w_.elim (fun x0_ => Or.inl (x0_)) (fun y0_ => y0_.elim (fun x1_ => Or.inr (Or.inl (x1_))) (fun y1_ => y1_.elim (fun x2_ => Or.inr (Or.inr (Or.inl (x2_)))) (fun y2_ => y2_.elim (fun x3_ => Or.inr (Or.inr (Or.inr (Or.inl (x3_))))) (fun y3_ => y3_.elim (fun x4_ => Or.inr (Or.inr (Or.inr (Or.inr (Or.inl (x4_)))))) (fun y4_ => y4_.elim (fun x5_ => Or.inr (Or.inr (Or.inr (Or.inr (Or.inr (Or.inl (x5_))))))) (fun y5_ => y5_.elim (fun x6_ => Or.inr (Or.inr (Or.inr (Or.inr (Or.inr (Or.inr (Or.inl (x6_)))))))) (fun y6_ => Or.inr (Or.inr (Or.inr (Or.inr (Or.inr (Or.inr (Or.inr (y6_))))))))))))))))]), trivial⟩
                · skip
                  refine dk_iload (pc' := 61) hE dX11_learn_59 rfl rfl ?_
                  refine dk_iload_n (pc' := 62) hE dX11_learn_61 rfl rfl rfl ?_
                  refine dk_icmp_eq (tgt := 131) (pc' := 65) hE dX11_learn_62 (by decide) rfl (fun hc60 => ?_) (fun hc60 => ?_)
                  · skip
                    obtain ⟨v61, hv61⟩ : ∃ z : Int, z = i + 1 := ⟨_, rfl⟩
                    refine dk_iinc (pc' := 134) (ls' := [(4, 141), (0, b), (0, p), (0, d), (0, k), (0, x), (0, v61), (9, 0), (9, 0)]) hE dX11_learn_131 rfl hv61.symm (by omega) rfl (by decide) rfl ?_
                    refine dk_goto (tgt := 45) hE dX11_learn_134 (by decide) ?_
                    exact ih45 x v61 σ45c (by omega) (fun k_ j_ h_ => by rw [hF45 k_ j_ (fun w_ => h_ (w_.elim (fun x0_ => Or.inl (x0_)) (fun y0_ => y0_.elim (fun x1_ => Or.inr (Or.inl (x1_))) (fun y1_ => y1_.elim (fun x2_ => Or.inr (Or.inr (Or.inl (x2_)))) (fun y2_ => y2_.elim (fun x3_ => Or.inr (Or.inr (Or.inr (Or.inl (x3_))))) (fun y3_ => y3_.elim (fun x4_ => Or.inr (Or.inr (Or.inr (Or.inr (Or.inl (x4_)))))) (fun y4_ => y4_.elim (fun x5_ => Or.inr (Or.inr (Or.inr (Or.inr (Or.inr (Or.inl (x5_))))))) (fun y5_ => y5_.elim (fun x6_ => Or.inr (Or.inr (Or.inr (Or.inr (Or.inr (Or.inr (Or.inl (x6_)))))))) (fun y6_ => Or.inr (Or.inr (Or.inr (Or.inr (Or.inr (Or.inr (Or.inr (y6_))))))))))))))))]) hG45 (by omega)
                  · skip
                    refine dk_aload_n (pc' := 66) hE dX11_learn_65 rfl rfl rfl ?_
                    refine dk_iload (pc' := 68) hE dX11_learn_66 rfl rfl ?_
                    refine dk_iload_n (pc' := 69) hE dX11_learn_68 rfl rfl rfl ?_
                    refine dk_iload_n (pc' := 70) hE dX11_learn_69 rfl rfl rfl ?_
                    refine dk_iload (pc' := 72) hE dX11_learn_70 rfl rfl ?_
                    refine dk_cV (pc' := 75) (as := [(0, i), (0, p), (0, d), (0, k)]) hE lk_X11_468 (ct_X11_knowsIt l G hGd i p d k) dX11_learn_72 rfl is_141 rfl (by decide) (Nat.le_of_ble_eq_true rfl) rfl rfl (fun r63 σ62 hr63 hor63 => ?_)
                    obtain ⟨v64, rfl, hfσ62, hpr63⟩ := hr63
                    have hsσ62 : σ45c = σ62 := (funext (fun k => funext (fun j => hfσ62 k j not_false))).symm
                    subst hsσ62
                    refine dk_if_eq (tgt := 131) (pc' := 78) hE dX11_learn_75 (by decide) rfl (fun hc65 => ?_) (fun hc65 => ?_)
                    · skip
                      obtain ⟨v66, hv66⟩ : ∃ z : Int, z = i + 1 := ⟨_, rfl⟩
                      refine dk_iinc (pc' := 134) (ls' := [(4, 141), (0, b), (0, p), (0, d), (0, k), (0, x), (0, v66), (9, 0), (9, 0)]) hE dX11_learn_131 rfl hv66.symm (by omega) rfl (by decide) rfl ?_
                      refine dk_goto (tgt := 45) hE dX11_learn_134 (by decide) ?_
                      exact ih45 x v66 σ45c (by omega) (fun k_ j_ h_ => by rw [hF45 k_ j_ (fun w_ => h_ (w_.elim (fun x0_ => Or.inl (x0_)) (fun y0_ => y0_.elim (fun x1_ => Or.inr (Or.inl (x1_))) (fun y1_ => y1_.elim (fun x2_ => Or.inr (Or.inr (Or.inl (x2_)))) (fun y2_ => y2_.elim (fun x3_ => Or.inr (Or.inr (Or.inr (Or.inl (x3_))))) (fun y3_ => y3_.elim (fun x4_ => Or.inr (Or.inr (Or.inr (Or.inr (Or.inl (x4_)))))) (fun y4_ => y4_.elim (fun x5_ => Or.inr (Or.inr (Or.inr (Or.inr (Or.inr (Or.inl (x5_))))))) (fun y5_ => y5_.elim (fun x6_ => Or.inr (Or.inr (Or.inr (Or.inr (Or.inr (Or.inr (Or.inl (x6_)))))))) (fun y6_ => Or.inr (Or.inr (Or.inr (Or.inr (Or.inr (Or.inr (Or.inr (y6_))))))))))))))))]) hG45 (by omega)
                    · skip
                      refine dk_aload_n (pc' := 79) hE dX11_learn_78 rfl rfl rfl ?_
                      refine dk_iload (pc' := 81) hE dX11_learn_79 rfl rfl ?_
                      refine dk_iload_n (pc' := 82) hE dX11_learn_81 rfl rfl rfl ?_
                      refine dk_iload (pc' := 84) hE dX11_learn_82 rfl rfl ?_
                      refine dk_cV (pc' := 87) (as := [(0, i), (0, d), (0, k)]) hE lk_X11_471 (ct_X11_isOut l G hGd i d k) dX11_learn_84 rfl is_141 rfl (by decide) (Nat.le_of_ble_eq_true rfl) rfl rfl (fun r68 σ67 hr68 hor68 => ?_)
                      obtain ⟨v69, rfl, hfσ67, hpr68⟩ := hr68
                      have hsσ67 : σ45c = σ67 := (funext (fun k => funext (fun j => hfσ67 k j not_false))).symm
                      subst hsσ67
                      refine dk_if_ne (tgt := 131) (pc' := 90) hE dX11_learn_87 (by decide) rfl (fun hc70 => ?_) (fun hc70 => ?_)
                      · skip
                        obtain ⟨v71, hv71⟩ : ∃ z : Int, z = i + 1 := ⟨_, rfl⟩
                        refine dk_iinc (pc' := 134) (ls' := [(4, 141), (0, b), (0, p), (0, d), (0, k), (0, x), (0, v71), (9, 0), (9, 0)]) hE dX11_learn_131 rfl hv71.symm (by omega) rfl (by decide) rfl ?_
                        refine dk_goto (tgt := 45) hE dX11_learn_134 (by decide) ?_
                        exact ih45 x v71 σ45c (by omega) (fun k_ j_ h_ => by rw [hF45 k_ j_ (fun w_ => h_ (w_.elim (fun x0_ => Or.inl (x0_)) (fun y0_ => y0_.elim (fun x1_ => Or.inr (Or.inl (x1_))) (fun y1_ => y1_.elim (fun x2_ => Or.inr (Or.inr (Or.inl (x2_)))) (fun y2_ => y2_.elim (fun x3_ => Or.inr (Or.inr (Or.inr (Or.inl (x3_))))) (fun y3_ => y3_.elim (fun x4_ => Or.inr (Or.inr (Or.inr (Or.inr (Or.inl (x4_)))))) (fun y4_ => y4_.elim (fun x5_ => Or.inr (Or.inr (Or.inr (Or.inr (Or.inr (Or.inl (x5_))))))) (fun y5_ => y5_.elim (fun x6_ => Or.inr (Or.inr (Or.inr (Or.inr (Or.inr (Or.inr (Or.inl (x6_)))))))) (fun y6_ => Or.inr (Or.inr (Or.inr (Or.inr (Or.inr (Or.inr (Or.inr (y6_))))))))))))))))]) hG45 (by omega)
                      · skip
                        refine dk_aload_n (pc' := 91) hE dX11_learn_90 rfl rfl rfl ?_
                        refine dk_iload (pc' := 93) hE dX11_learn_91 rfl rfl ?_
                        refine dk_iload_n (pc' := 94) hE dX11_learn_93 rfl rfl rfl ?_
                        refine dk_iload (pc' := 96) hE dX11_learn_94 rfl rfl ?_
                        refine dk_cV (pc' := 99) (as := [(0, i), (0, d), (0, k)]) hE lk_X11_474 (ct_X11_isGone l G hGd i d k) dX11_learn_96 rfl is_141 rfl (by decide) (Nat.le_of_ble_eq_true rfl) rfl rfl (fun r73 σ72 hr73 hor73 => ?_)
                        obtain ⟨v74, rfl, hfσ72, hpr73⟩ := hr73
                        have hsσ72 : σ45c = σ72 := (funext (fun k => funext (fun j => hfσ72 k j not_false))).symm
                        subst hsσ72
                        refine dk_if_eq (tgt := 105) (pc' := 102) hE dX11_learn_99 (by decide) rfl (fun hc75 => ?_) (fun hc75 => ?_)
                        · skip
                          refine dk_aload_n (pc' := 106) hE dX11_learn_105 rfl rfl rfl ?_
                          refine dk_iload (pc' := 108) hE dX11_learn_106 rfl rfl ?_
                          refine dk_iload_n (pc' := 109) hE dX11_learn_108 rfl rfl rfl ?_
                          refine dk_iload_n (pc' := 110) hE dX11_learn_109 rfl rfl rfl ?_
                          refine dk_iload (pc' := 112) hE dX11_learn_110 rfl rfl ?_
                          refine dk_cV (pc' := 115) (as := [(0, i), (0, p), (0, d), (0, k)]) hE lk_X11_455 (ct_X11_ask l G hGd i p d k) dX11_learn_112 rfl is_141 rfl (by decide) (Nat.le_of_ble_eq_true rfl) ⟨rfl, hG45, (by omega)⟩ rfl (fun r77 σ76 hr77 hor77 => ?_)
                          obtain ⟨rfl, hfσ76, hpr77⟩ := hr77
                          refine dk_aload_n (pc' := 116) hE dX11_learn_115 rfl rfl rfl ?_
                          refine dk_iconst (pc' := 117) hE dX11_learn_116 (by decide) rfl ?_
                          refine dk_iconst (pc' := 118) hE dX11_learn_117 (by decide) rfl ?_
                          have gi78 : MI σ76 := MI_fr hG45 (fun k_ j_ h_ => by rw [hfσ76 k_ j_ (fpw33_2804642510 k_ j_ h_)])
                          refine dk_cV (pc' := 121) (as := [(0, 1), (0, 1)]) hE lk_X11_477 (ct_X11_work l G hGd 1 1) dX11_learn_118 rfl is_141 rfl (by decide) (Nat.le_of_ble_eq_true rfl) ⟨rfl, gi78, (by omega)⟩ rfl (fun r80 σ79 hr80 hor80 => ?_)
                          obtain ⟨v81, rfl, hfσ79, hpr80⟩ := hr80
                          have hkv81 := dk_oki (hor80 _ rfl)
                          refine dk_if_eq (tgt := 128) (pc' := 124) hE dX11_learn_121 (by decide) rfl (fun hc82 => ?_) (fun hc82 => ?_)
                          · skip
                            refine dk_iconst (pc' := 129) hE dX11_learn_128 (by decide) rfl ?_
                            refine dk_istore (pc' := 131) (ls' := [(4, 141), (0, b), (0, p), (0, d), (0, k), (0, 0), (0, i), (9, 0), (9, 0)]) hE dX11_learn_129 rfl (by decide) rfl ?_
                            obtain ⟨v83, hv83⟩ : ∃ z : Int, z = i + 1 := ⟨_, rfl⟩
                            refine dk_iinc (pc' := 134) (ls' := [(4, 141), (0, b), (0, p), (0, d), (0, k), (0, 0), (0, v83), (9, 0), (9, 0)]) hE dX11_learn_131 rfl hv83.symm (by omega) rfl (by decide) rfl ?_
                            refine dk_goto (tgt := 45) hE dX11_learn_134 (by decide) ?_
                            have gi84 : MI σ79 := MI_fr gi78 (fun k_ j_ h_ => by rw [hfσ79 k_ j_ (fpw33_1202096809 k_ j_ h_)])
                            exact ih45 0 v83 σ79 (by omega) (fun k_ j_ h_ => by rw [hfσ79 k_ j_ (fun w_ => h_ (Or.inr (Or.inr (Or.inr (Or.inr (Or.inr (Or.inr (Or.inr (w_))))))))), hfσ76 k_ j_ (fun w_ => h_ (w_.elim (fun x0_ => Or.inl (x0_)) (fun y0_ => y0_.elim (fun x1_ => Or.inr (Or.inl (x1_))) (fun y1_ => y1_.elim (fun x2_ => Or.inr (Or.inr (Or.inl (x2_)))) (fun y2_ => y2_.elim (fun x3_ => Or.inr (Or.inr (Or.inr (Or.inl (x3_))))) (fun y3_ => y3_.elim (fun x4_ => Or.inr (Or.inr (Or.inr (Or.inr (Or.inl (x4_)))))) (fun y4_ => y4_.elim (fun x5_ => Or.inr (Or.inr (Or.inr (Or.inr (Or.inr (Or.inl (x5_))))))) (fun y5_ => Or.inr (Or.inr (Or.inr (Or.inr (Or.inr (Or.inr (Or.inl (y5_))))))))))))))), hF45 k_ j_ (fun w_ => h_ (w_.elim (fun x0_ => Or.inl (x0_)) (fun y0_ => y0_.elim (fun x1_ => Or.inr (Or.inl (x1_))) (fun y1_ => y1_.elim (fun x2_ => Or.inr (Or.inr (Or.inl (x2_)))) (fun y2_ => y2_.elim (fun x3_ => Or.inr (Or.inr (Or.inr (Or.inl (x3_))))) (fun y3_ => y3_.elim (fun x4_ => Or.inr (Or.inr (Or.inr (Or.inr (Or.inl (x4_)))))) (fun y4_ => y4_.elim (fun x5_ => Or.inr (Or.inr (Or.inr (Or.inr (Or.inr (Or.inl (x5_))))))) (fun y5_ => y5_.elim (fun x6_ => Or.inr (Or.inr (Or.inr (Or.inr (Or.inr (Or.inr (Or.inl (x6_)))))))) (fun y6_ => Or.inr (Or.inr (Or.inr (Or.inr (Or.inr (Or.inr (Or.inr (y6_))))))))))))))))]) gi84 (by omega)
                          · skip
                            refine dk_iconst (pc' := 125) hE dX11_learn_124 (by decide) rfl ?_
                            refine dk_goto (tgt := 129) hE dX11_learn_125 (by decide) ?_
                            refine dk_istore (pc' := 131) (ls' := [(4, 141), (0, b), (0, p), (0, d), (0, k), (0, 1), (0, i), (9, 0), (9, 0)]) hE dX11_learn_129 rfl (by decide) rfl ?_
                            obtain ⟨v85, hv85⟩ : ∃ z : Int, z = i + 1 := ⟨_, rfl⟩
                            refine dk_iinc (pc' := 134) (ls' := [(4, 141), (0, b), (0, p), (0, d), (0, k), (0, 1), (0, v85), (9, 0), (9, 0)]) hE dX11_learn_131 rfl hv85.symm (by omega) rfl (by decide) rfl ?_
                            refine dk_goto (tgt := 45) hE dX11_learn_134 (by decide) ?_
                            have gi86 : MI σ79 := MI_fr gi78 (fun k_ j_ h_ => by rw [hfσ79 k_ j_ (fpw33_1202096809 k_ j_ h_)])
                            exact ih45 1 v85 σ79 (by omega) (fun k_ j_ h_ => by rw [hfσ79 k_ j_ (fun w_ => h_ (Or.inr (Or.inr (Or.inr (Or.inr (Or.inr (Or.inr (Or.inr (w_))))))))), hfσ76 k_ j_ (fun w_ => h_ (w_.elim (fun x0_ => Or.inl (x0_)) (fun y0_ => y0_.elim (fun x1_ => Or.inr (Or.inl (x1_))) (fun y1_ => y1_.elim (fun x2_ => Or.inr (Or.inr (Or.inl (x2_)))) (fun y2_ => y2_.elim (fun x3_ => Or.inr (Or.inr (Or.inr (Or.inl (x3_))))) (fun y3_ => y3_.elim (fun x4_ => Or.inr (Or.inr (Or.inr (Or.inr (Or.inl (x4_)))))) (fun y4_ => y4_.elim (fun x5_ => Or.inr (Or.inr (Or.inr (Or.inr (Or.inr (Or.inl (x5_))))))) (fun y5_ => Or.inr (Or.inr (Or.inr (Or.inr (Or.inr (Or.inr (Or.inl (y5_))))))))))))))), hF45 k_ j_ (fun w_ => h_ (w_.elim (fun x0_ => Or.inl (x0_)) (fun y0_ => y0_.elim (fun x1_ => Or.inr (Or.inl (x1_))) (fun y1_ => y1_.elim (fun x2_ => Or.inr (Or.inr (Or.inl (x2_)))) (fun y2_ => y2_.elim (fun x3_ => Or.inr (Or.inr (Or.inr (Or.inl (x3_))))) (fun y3_ => y3_.elim (fun x4_ => Or.inr (Or.inr (Or.inr (Or.inr (Or.inl (x4_)))))) (fun y4_ => y4_.elim (fun x5_ => Or.inr (Or.inr (Or.inr (Or.inr (Or.inr (Or.inl (x5_))))))) (fun y5_ => y5_.elim (fun x6_ => Or.inr (Or.inr (Or.inr (Or.inr (Or.inr (Or.inr (Or.inl (x6_)))))))) (fun y6_ => Or.inr (Or.inr (Or.inr (Or.inr (Or.inr (Or.inr (Or.inr (y6_))))))))))))))))]) gi86 (by omega)
                        · skip
                          refine dk_goto (tgt := 131) hE dX11_learn_102 (by decide) ?_
                          obtain ⟨v87, hv87⟩ : ∃ z : Int, z = i + 1 := ⟨_, rfl⟩
                          refine dk_iinc (pc' := 134) (ls' := [(4, 141), (0, b), (0, p), (0, d), (0, k), (0, x), (0, v87), (9, 0), (9, 0)]) hE dX11_learn_131 rfl hv87.symm (by omega) rfl (by decide) rfl ?_
                          refine dk_goto (tgt := 45) hE dX11_learn_134 (by decide) ?_
                          exact ih45 x v87 σ45c (by omega) (fun k_ j_ h_ => by rw [hF45 k_ j_ (fun w_ => h_ (w_.elim (fun x0_ => Or.inl (x0_)) (fun y0_ => y0_.elim (fun x1_ => Or.inr (Or.inl (x1_))) (fun y1_ => y1_.elim (fun x2_ => Or.inr (Or.inr (Or.inl (x2_)))) (fun y2_ => y2_.elim (fun x3_ => Or.inr (Or.inr (Or.inr (Or.inl (x3_))))) (fun y3_ => y3_.elim (fun x4_ => Or.inr (Or.inr (Or.inr (Or.inr (Or.inl (x4_)))))) (fun y4_ => y4_.elim (fun x5_ => Or.inr (Or.inr (Or.inr (Or.inr (Or.inr (Or.inl (x5_))))))) (fun y5_ => y5_.elim (fun x6_ => Or.inr (Or.inr (Or.inr (Or.inr (Or.inr (Or.inr (Or.inl (x6_)))))))) (fun y6_ => Or.inr (Or.inr (Or.inr (Or.inr (Or.inr (Or.inr (Or.inr (y6_))))))))))))))))]) hG45 (by omega)
          exact lp45 _ 0 0 σ (Nat.lt_succ_self _) (fun k_ j_ h_ => rfl) hG (by omega)
        · skip
          refine dk_iconst (pc' := 38) hE dX11_learn_37 (by decide) rfl ?_
          exact dk_iret (st := []) hE hR dX11_learn_38 ⟨_, rfl, (fun k_ j_ h_ => rfl), trivial⟩
      · skip
        refine dk_if_ne (tgt := 25) (pc' := 23) hE dX11_learn_20 (by decide) rfl (fun hc88 => absurd hc88 (by decide)) (fun hc88 => ?_)
        refine dk_iconst (pc' := 24) hE dX11_learn_23 (by decide) rfl ?_
        exact dk_iret (st := []) hE hR dX11_learn_24 ⟨_, rfl, (fun k_ j_ h_ => rfl), trivial⟩
    · skip
      refine dk_if_eq (tgt := 23) (pc' := 16) hE dX11_learn_13 (by decide) rfl (fun hc89 => ?_) (fun hc89 => absurd hc89 (by decide))
      refine dk_iconst (pc' := 24) hE dX11_learn_23 (by decide) rfl ?_
      exact dk_iret (st := []) hE hR dX11_learn_24 ⟨_, rfl, (fun k_ j_ h_ => rfl), trivial⟩
  · skip
    refine dk_if_eq (tgt := 23) (pc' := 8) hE dX11_learn_5 (by decide) rfl (fun hc90 => ?_) (fun hc90 => absurd hc90 (by decide))
    refine dk_iconst (pc' := 24) hE dX11_learn_23 (by decide) rfl ?_
    exact dk_iret (st := []) hE hR dX11_learn_24 ⟨_, rfl, (fun k_ j_ h_ => rfl), trivial⟩
