set_option maxHeartbeats 4000000 in
set_option maxRecDepth 20000 in
theorem ct_X11_e (l : Launch) (G : dkG) (hGd : dk_Gd G) (c r : Int) : dk_Ct l G dk_Ty yX11_e cX11_e 2 (none) 5 190 190 (fun av σ => av = [(4, 141)] ∧ (TK σ) ∧ (σ 141 3 ≤ 600) ∧ (BS r σ) ∧ (c = σ 141 42) ∧ (σ 141 4 = 0)) (fun _ σ r_ σ' => r_ = none ∧ (∀ k_ j_ : Int, ¬ ((k_ = 141 ∧ j_ = 4) ∨ (k_ = 141 ∧ j_ = 5) ∨ (k_ = 141 ∧ j_ = 6) ∨ (k_ = 141 ∧ j_ = 7) ∨ (k_ = 141 ∧ j_ = 8) ∨ (k_ = 141 ∧ j_ = 9) ∨ (k_ = 141 ∧ j_ = 10) ∨ (k_ = 141 ∧ j_ = 42) ∨ (k_ = 141 ∧ j_ = 43) ∨ (k_ = 141 ∧ j_ = 44) ∨ (k_ = 141 ∧ j_ = 45) ∨ (164 ≤ k_ ∧ k_ ≤ 167)) → σ' k_ j_ = σ k_ j_) ∧ (QX c r σ σ')) := by
  refine dk_enter hGd (by decide) (fun av σ hpre hok => ?_)
  obtain ⟨rfl, hT, hS, hB, hc, h4⟩ := hpre
  refine ⟨Nat.le_of_ble_eq_true rfl, fun E hE hR _ => ?_⟩
  show dk_PJ E 0 [(4, 141), (9, 0)] [] 190 σ
  have hb0 := hB.2
  refine dk_aload_n (pc' := 1) hE dX11_e_0 rfl rfl rfl ?_
  refine dk_iconst (pc' := 2) hE dX11_e_1 (by decide) rfl ?_
  refine pf_11_45 (pc' := 5) hE fl_X11_389 dX11_e_2 is_141 (by omega) rfl (fun σ1 eσ1 => ?_)
  refine dk_aload_n (pc' := 6) hE dX11_e_5 rfl rfl rfl ?_
  refine dk_iconst (pc' := 7) hE dX11_e_6 (by decide) rfl ?_
  refine pf_11_44 (pc' := 10) hE fl_X11_392 dX11_e_7 is_141 trivial rfl (fun σ2 eσ2 => ?_)
  refine dk_aload_n (pc' := 11) hE dX11_e_10 rfl rfl rfl ?_
  refine dk_bipush (pc' := 13) hE dX11_e_11 (by decide) rfl ?_
  refine dk_iconst (pc' := 14) hE dX11_e_13 (by decide) rfl ?_
  have hz3 : σ2 141 45 = 0 := by rw [eσ2, dk_up_n (show ¬ (141 = 141 ∧ 45 = 44) by omega), eσ1, dk_up_s]
  refine dk_cV (pc' := 17) (as := [(0, 8), (0, 0)]) hE lk_X11_395 (ct_X11_put l G hGd 8 0 0) dX11_e_14 rfl is_141 rfl (by decide) (Nat.le_of_ble_eq_true rfl) ⟨rfl, (by omega), (by omega)⟩ rfl (fun r5 σ4 hr5 hor5 => ?_)
  obtain ⟨rfl, hfσ4, hpr5⟩ := hr5
  have hz6 : σ4 141 44 = 0 := by rw [hfσ4 141 44 (by omega), eσ2, dk_up_s]
  have hp45 := hpr5.2.2
  have hp66 := hpr5.1
  refine dk_iconst (pc' := 18) hE dX11_e_17 (by decide) rfl ?_
  refine dk_istore_n (pc' := 19) (ls' := [(4, 141), (0, 1)]) hE dX11_e_18 rfl rfl (by decide) rfl ?_
  have lp19 : ∀ (N_ : Nat) (w : Int) (σ19c : dkS), (200 * (1402 - σ19c 141 6) + σ19c 141 45 - σ19c 141 4).toNat < N_ → ((∀ k_ j_ : Int, ¬ ((k_ = 141 ∧ j_ = 4) ∨ (k_ = 141 ∧ j_ = 5) ∨ (k_ = 141 ∧ j_ = 6) ∨ (k_ = 141 ∧ j_ = 7) ∨ (k_ = 141 ∧ j_ = 8) ∨ (k_ = 141 ∧ j_ = 9) ∨ (k_ = 141 ∧ j_ = 10) ∨ (k_ = 141 ∧ j_ = 42) ∨ (k_ = 141 ∧ j_ = 43) ∨ (k_ = 141 ∧ j_ = 44) ∨ (k_ = 141 ∧ j_ = 45) ∨ (164 ≤ k_ ∧ k_ ≤ 167)) → σ19c k_ j_ = σ4 k_ j_)) → (∃ u : Int, PX u c r σ σ19c ∧ (σ19c 141 4 = 0 → u = w)) → (w = 0 ∨ w = 1) → (σ19c 141 3 ≤ 600) → dk_PJ E 19 [(4, 141), (0, w)] [] 190 σ19c := by
    intro N19
    induction N19 with
    | zero => intro w σ19c hm; exact absurd hm (Nat.not_lt_zero _)
    | succ N19 ih19 =>
      intro w σ19c hm19 hF19 hPX_ hw h3
      obtain ⟨u, hPX, hu⟩ := hPX_
      have hq := PX_n hPX
      refine dk_aload_n (pc' := 20) hE dX11_e_19 rfl rfl rfl ?_
      refine dk_cV (pc' := 23) (as := []) hE lk_X11_250 (ct_X11_isGood l G hGd) dX11_e_20 rfl is_141 rfl (by decide) (Nat.le_of_ble_eq_true rfl) rfl rfl (fun r8 σ7 hr8 hor8 => ?_)
      obtain ⟨v9, rfl, hfσ7, hpr8⟩ := hr8
      have hsσ7 : σ19c = σ7 := (funext (fun k => funext (fun j => hfσ7 k j not_false))).symm
      subst hsσ7
      rcases hpr8 with ⟨rfl, hpr8⟩ | ⟨rfl, hpr8⟩
      · skip
        refine dk_if_eq (tgt := 52) (pc' := 26) hE dX11_e_23 (by decide) rfl (fun hc10 => absurd hc10 (by decide)) (fun hc10 => ?_)
        refine dk_aload_n (pc' := 27) hE dX11_e_26 rfl rfl rfl ?_
        refine gf_11_45 (pc' := 30) hE fl_X11_389 dX11_e_27 is_141 rfl (fun v11 hv11 htv11 hbv11 => ?_)
        refine dk_if_le (tgt := 52) (pc' := 33) hE dX11_e_30 (by decide) rfl (fun hc12 => ?_) (fun hc12 => ?_)
        · skip
          exact dk_vret (st := []) hE hR dX11_e_52 ⟨rfl, (fun k_ j_ h_ => by rw [hF19 k_ j_ (fun w_ => h_ (w_.elim (fun x0_ => Or.inl (x0_)) (fun y0_ => y0_.elim (fun x1_ => Or.inr (Or.inl (x1_))) (fun y1_ => y1_.elim (fun x2_ => Or.inr (Or.inr (Or.inl (x2_)))) (fun y2_ => y2_.elim (fun x3_ => Or.inr (Or.inr (Or.inr (Or.inl (x3_))))) (fun y3_ => y3_.elim (fun x4_ => Or.inr (Or.inr (Or.inr (Or.inr (Or.inl (x4_)))))) (fun y4_ => y4_.elim (fun x5_ => Or.inr (Or.inr (Or.inr (Or.inr (Or.inr (Or.inl (x5_))))))) (fun y5_ => y5_.elim (fun x6_ => Or.inr (Or.inr (Or.inr (Or.inr (Or.inr (Or.inr (Or.inl (x6_)))))))) (fun y6_ => y6_.elim (fun x7_ => Or.inr (Or.inr (Or.inr (Or.inr (Or.inr (Or.inr (Or.inr (Or.inl (x7_))))))))) (fun y7_ => y7_.elim (fun x8_ => Or.inr (Or.inr (Or.inr (Or.inr (Or.inr (Or.inr (Or.inr (Or.inr (Or.inl (x8_)))))))))) (fun y8_ => y8_.elim (fun x9_ => Or.inr (Or.inr (Or.inr (Or.inr (Or.inr (Or.inr (Or.inr (Or.inr (Or.inr (Or.inl (x9_))))))))))) (fun y9_ => y9_.elim (fun x10_ => Or.inr (Or.inr (Or.inr (Or.inr (Or.inr (Or.inr (Or.inr (Or.inr (Or.inr (Or.inr (Or.inl (x10_)))))))))))) (fun y10_ => Or.inr (Or.inr (Or.inr (Or.inr (Or.inr (Or.inr (Or.inr (Or.inr (Or.inr (Or.inr (Or.inr (y10_)))))))))))))))))))))))), hfσ4 k_ j_ (fun w_ => h_ (w_.elim (fun x0_ => Or.inr (Or.inr (Or.inr (Or.inr (Or.inr (Or.inr (Or.inr (Or.inr (Or.inr (Or.inr (Or.inr (dk_wr (lo := 164) (hi := 167) x0_.1 (by decide))))))))))))) (fun y0_ => y0_.elim (fun x1_ => Or.inr (Or.inr (Or.inr (Or.inr (Or.inr (Or.inr (Or.inr (Or.inr (Or.inr (Or.inr (Or.inr (dk_wr (lo := 164) (hi := 167) x1_.1 (by decide))))))))))))) (fun y1_ => Or.inr (Or.inr (Or.inr (Or.inr (Or.inr (Or.inr (Or.inr (Or.inr (Or.inr (Or.inr (Or.inl (y1_))))))))))))))), eσ2, dk_up_n (show ¬ (k_ = 141 ∧ j_ = 44) from fun q_ => h_ (Or.inr (Or.inr (Or.inr (Or.inr (Or.inr (Or.inr (Or.inr (Or.inr (Or.inr (Or.inl (q_)))))))))))), eσ1, dk_up_n (show ¬ (k_ = 141 ∧ j_ = 45) from fun q_ => h_ (Or.inr (Or.inr (Or.inr (Or.inr (Or.inr (Or.inr (Or.inr (Or.inr (Or.inr (Or.inr (Or.inl (q_)))))))))))))]), hPX.1⟩
        · skip
          refine dk_iload_n (pc' := 34) hE dX11_e_33 rfl rfl rfl ?_
          refine dk_if_eq (tgt := 44) (pc' := 37) hE dX11_e_34 (by decide) rfl (fun hc13 => ?_) (fun hc13 => ?_)
          · skip
            refine dk_aload_n (pc' := 45) hE dX11_e_44 rfl rfl rfl ?_
            have hz14 : σ19c 141 3 = σ 141 3 := by rw [hF19 141 3 (by omega), hfσ4 141 3 (by omega), eσ2, dk_up_n (show ¬ (141 = 141 ∧ 3 = 44) by omega), eσ1, dk_up_n (show ¬ (141 = 141 ∧ 3 = 45) by omega)]
            have hz15 : σ19c 141 45 = v11 := by rw [hv11]
            refine dk_cV (pc' := 48) (as := []) hE lk_X11_401 (ct_X11_behind l G hGd c r (σ19c 141 6)) dX11_e_45 rfl is_141 rfl (by decide) (Nat.le_of_ble_eq_true rfl) ⟨rfl, (NX_tk hPX.1.1), (by omega), ((show u = 0 by omega) ▸ PX_rf hPX), (by omega), (by omega), (by omega)⟩ rfl (fun r17 σ16 hr17 hor17 => ?_)
            obtain ⟨v18, rfl, hfσ16, hpr17⟩ := hr17
            have H45 := hpr17
            obtain ⟨v_, a_, b_⟩ := H45.1
            have hx_ := PX_n a_
            have hy_ := a_.1.1.2.2.1
            have hz_ := a_.1.1.2.2.2.2 (by omega)
            have hw_ := H45.2
            have hv_ := a_.1.1.1
            refine dk_istore_n (pc' := 49) (ls' := [(4, 141), (0, v18)]) hE dX11_e_48 rfl rfl (by decide) rfl ?_
            refine dk_goto (tgt := 19) hE dX11_e_49 (by decide) ?_
            have hz19_141_3 := (show σ16 141 3 = _ by rw [hfσ16 141 3 (by omega)])
            exact ih19 v18 σ16 (by omega) (fun k_ j_ h_ => by rw [hfσ16 k_ j_ (fun w_ => h_ (w_.elim (fun x0_ => Or.inl (x0_)) (fun y0_ => y0_.elim (fun x1_ => Or.inr (Or.inl (x1_))) (fun y1_ => y1_.elim (fun x2_ => Or.inr (Or.inr (Or.inl (x2_)))) (fun y2_ => y2_.elim (fun x3_ => Or.inr (Or.inr (Or.inr (Or.inl (x3_))))) (fun y3_ => y3_.elim (fun x4_ => Or.inr (Or.inr (Or.inr (Or.inr (Or.inl (x4_)))))) (fun y4_ => y4_.elim (fun x5_ => Or.inr (Or.inr (Or.inr (Or.inr (Or.inr (Or.inl (x5_))))))) (fun y5_ => y5_.elim (fun x6_ => Or.inr (Or.inr (Or.inr (Or.inr (Or.inr (Or.inr (Or.inl (x6_)))))))) (fun y6_ => y6_.elim (fun x7_ => Or.inr (Or.inr (Or.inr (Or.inr (Or.inr (Or.inr (Or.inr (Or.inl (x7_))))))))) (fun y7_ => y7_.elim (fun x8_ => Or.inr (Or.inr (Or.inr (Or.inr (Or.inr (Or.inr (Or.inr (Or.inr (Or.inl (x8_)))))))))) (fun y8_ => y8_.elim (fun x9_ => Or.inr (Or.inr (Or.inr (Or.inr (Or.inr (Or.inr (Or.inr (Or.inr (Or.inr (Or.inl (x9_))))))))))) (fun y9_ => y9_.elim (fun x10_ => Or.inr (Or.inr (Or.inr (Or.inr (Or.inr (Or.inr (Or.inr (Or.inr (Or.inr (Or.inr (Or.inl (x10_)))))))))))) (fun y10_ => Or.inr (Or.inr (Or.inr (Or.inr (Or.inr (Or.inr (Or.inr (Or.inr (Or.inr (Or.inr (Or.inr (y10_)))))))))))))))))))))))), hF19 k_ j_ (fun w_ => h_ (w_.elim (fun x0_ => Or.inl (x0_)) (fun y0_ => y0_.elim (fun x1_ => Or.inr (Or.inl (x1_))) (fun y1_ => y1_.elim (fun x2_ => Or.inr (Or.inr (Or.inl (x2_)))) (fun y2_ => y2_.elim (fun x3_ => Or.inr (Or.inr (Or.inr (Or.inl (x3_))))) (fun y3_ => y3_.elim (fun x4_ => Or.inr (Or.inr (Or.inr (Or.inr (Or.inl (x4_)))))) (fun y4_ => y4_.elim (fun x5_ => Or.inr (Or.inr (Or.inr (Or.inr (Or.inr (Or.inl (x5_))))))) (fun y5_ => y5_.elim (fun x6_ => Or.inr (Or.inr (Or.inr (Or.inr (Or.inr (Or.inr (Or.inl (x6_)))))))) (fun y6_ => y6_.elim (fun x7_ => Or.inr (Or.inr (Or.inr (Or.inr (Or.inr (Or.inr (Or.inr (Or.inl (x7_))))))))) (fun y7_ => y7_.elim (fun x8_ => Or.inr (Or.inr (Or.inr (Or.inr (Or.inr (Or.inr (Or.inr (Or.inr (Or.inl (x8_)))))))))) (fun y8_ => y8_.elim (fun x9_ => Or.inr (Or.inr (Or.inr (Or.inr (Or.inr (Or.inr (Or.inr (Or.inr (Or.inr (Or.inl (x9_))))))))))) (fun y9_ => y9_.elim (fun x10_ => Or.inr (Or.inr (Or.inr (Or.inr (Or.inr (Or.inr (Or.inr (Or.inr (Or.inr (Or.inr (Or.inl (x10_)))))))))))) (fun y10_ => Or.inr (Or.inr (Or.inr (Or.inr (Or.inr (Or.inr (Or.inr (Or.inr (Or.inr (Or.inr (Or.inr (y10_))))))))))))))))))))))))]) (by first | exact ⟨1, PX_all (QX_of hT hB hc) hc.symm (fun k_ j_ e1_ e2_ e3_ => by rw [hfσ16 k_ j_ (by omega), hF19 k_ j_ (by omega), hfσ4 k_ j_ (by omega), eσ2, dk_up_n (show ¬ (k_ = 141 ∧ j_ = 44) by omega), eσ1, dk_up_n (show ¬ (k_ = 141 ∧ j_ = 45) by omega)]) (by omega) (by omega) hp66, fun _ => rfl⟩ | exact ⟨_, PX_px hPX H38.1, fun _ => rfl⟩ | exact ⟨_, PX_px hPX a_, b_⟩) (by omega) (by omega)
          · skip
            refine dk_aload_n (pc' := 38) hE dX11_e_37 rfl rfl rfl ?_
            have hz23 : σ19c 141 3 = σ 141 3 := by rw [hF19 141 3 (by omega), hfσ4 141 3 (by omega), eσ2, dk_up_n (show ¬ (141 = 141 ∧ 3 = 44) by omega), eσ1, dk_up_n (show ¬ (141 = 141 ∧ 3 = 45) by omega)]
            have hz24 : σ19c 141 45 = v11 := by rw [hv11]
            have hz25 : σ19c 141 45 = v11 := by rw [hv11]
            have hz26 : σ19c 141 45 = v11 := by rw [hv11]
            refine dk_cV (pc' := 41) (as := []) hE lk_X11_398 (ct_X11_unit l G hGd c r (σ19c 141 42) (σ19c 141 45)) dX11_e_38 rfl is_141 rfl (by decide) (Nat.le_of_ble_eq_true rfl) ⟨rfl, (NX_tk hPX.1.1), (by omega), ((show u = 1 by omega) ▸ PX_rf hPX), (by omega), (by omega), (by omega), (by omega)⟩ rfl (fun r28 σ27 hr28 hor28 => ?_)
            obtain ⟨v29, rfl, hfσ27, hpr28⟩ := hr28
            have H38 := hpr28
            have hx_ := PX_n H38.1
            have hy_ := H38.1.1.1.2.2.1
            have hz_ := H38.1.1.1.2.2.2.2 (by omega)
            have hw_ := H38.2
            have hv_ := H38.1.1.1.1
            refine dk_goto (tgt := 48) hE dX11_e_41 (by decide) ?_
            refine dk_istore_n (pc' := 49) (ls' := [(4, 141), (0, v29)]) hE dX11_e_48 rfl rfl (by decide) rfl ?_
            refine dk_goto (tgt := 19) hE dX11_e_49 (by decide) ?_
            have hz30_141_3 := (show σ27 141 3 = _ by rw [hfσ27 141 3 (by omega)])
            exact ih19 v29 σ27 (by omega) (fun k_ j_ h_ => by rw [hfσ27 k_ j_ (fun w_ => h_ (w_.elim (fun x0_ => Or.inl (x0_)) (fun y0_ => y0_.elim (fun x1_ => Or.inr (Or.inl (x1_))) (fun y1_ => y1_.elim (fun x2_ => Or.inr (Or.inr (Or.inl (x2_)))) (fun y2_ => y2_.elim (fun x3_ => Or.inr (Or.inr (Or.inr (Or.inl (x3_))))) (fun y3_ => y3_.elim (fun x4_ => Or.inr (Or.inr (Or.inr (Or.inr (Or.inl (x4_)))))) (fun y4_ => y4_.elim (fun x5_ => Or.inr (Or.inr (Or.inr (Or.inr (Or.inr (Or.inl (x5_))))))) (fun y5_ => y5_.elim (fun x6_ => Or.inr (Or.inr (Or.inr (Or.inr (Or.inr (Or.inr (Or.inl (x6_)))))))) (fun y6_ => y6_.elim (fun x7_ => Or.inr (Or.inr (Or.inr (Or.inr (Or.inr (Or.inr (Or.inr (Or.inl (x7_))))))))) (fun y7_ => y7_.elim (fun x8_ => Or.inr (Or.inr (Or.inr (Or.inr (Or.inr (Or.inr (Or.inr (Or.inr (Or.inl (x8_)))))))))) (fun y8_ => y8_.elim (fun x9_ => Or.inr (Or.inr (Or.inr (Or.inr (Or.inr (Or.inr (Or.inr (Or.inr (Or.inr (Or.inl (x9_))))))))))) (fun y9_ => y9_.elim (fun x10_ => Or.inr (Or.inr (Or.inr (Or.inr (Or.inr (Or.inr (Or.inr (Or.inr (Or.inr (Or.inr (Or.inl (x10_)))))))))))) (fun y10_ => Or.inr (Or.inr (Or.inr (Or.inr (Or.inr (Or.inr (Or.inr (Or.inr (Or.inr (Or.inr (Or.inr (y10_)))))))))))))))))))))))), hF19 k_ j_ (fun w_ => h_ (w_.elim (fun x0_ => Or.inl (x0_)) (fun y0_ => y0_.elim (fun x1_ => Or.inr (Or.inl (x1_))) (fun y1_ => y1_.elim (fun x2_ => Or.inr (Or.inr (Or.inl (x2_)))) (fun y2_ => y2_.elim (fun x3_ => Or.inr (Or.inr (Or.inr (Or.inl (x3_))))) (fun y3_ => y3_.elim (fun x4_ => Or.inr (Or.inr (Or.inr (Or.inr (Or.inl (x4_)))))) (fun y4_ => y4_.elim (fun x5_ => Or.inr (Or.inr (Or.inr (Or.inr (Or.inr (Or.inl (x5_))))))) (fun y5_ => y5_.elim (fun x6_ => Or.inr (Or.inr (Or.inr (Or.inr (Or.inr (Or.inr (Or.inl (x6_)))))))) (fun y6_ => y6_.elim (fun x7_ => Or.inr (Or.inr (Or.inr (Or.inr (Or.inr (Or.inr (Or.inr (Or.inl (x7_))))))))) (fun y7_ => y7_.elim (fun x8_ => Or.inr (Or.inr (Or.inr (Or.inr (Or.inr (Or.inr (Or.inr (Or.inr (Or.inl (x8_)))))))))) (fun y8_ => y8_.elim (fun x9_ => Or.inr (Or.inr (Or.inr (Or.inr (Or.inr (Or.inr (Or.inr (Or.inr (Or.inr (Or.inl (x9_))))))))))) (fun y9_ => y9_.elim (fun x10_ => Or.inr (Or.inr (Or.inr (Or.inr (Or.inr (Or.inr (Or.inr (Or.inr (Or.inr (Or.inr (Or.inl (x10_)))))))))))) (fun y10_ => Or.inr (Or.inr (Or.inr (Or.inr (Or.inr (Or.inr (Or.inr (Or.inr (Or.inr (Or.inr (Or.inr (y10_))))))))))))))))))))))))]) (by first | exact ⟨1, PX_all (QX_of hT hB hc) hc.symm (fun k_ j_ e1_ e2_ e3_ => by rw [hfσ27 k_ j_ (by omega), hF19 k_ j_ (by omega), hfσ4 k_ j_ (by omega), eσ2, dk_up_n (show ¬ (k_ = 141 ∧ j_ = 44) by omega), eσ1, dk_up_n (show ¬ (k_ = 141 ∧ j_ = 45) by omega)]) (by omega) (by omega) hp66, fun _ => rfl⟩ | exact ⟨_, PX_px hPX H38.1, fun _ => rfl⟩ | exact ⟨_, PX_px hPX a_, b_⟩) (by omega) (by omega)
      · skip
        refine dk_if_eq (tgt := 52) (pc' := 26) hE dX11_e_23 (by decide) rfl (fun hc34 => ?_) (fun hc34 => absurd hc34 (by decide))
        exact dk_vret (st := []) hE hR dX11_e_52 ⟨rfl, (fun k_ j_ h_ => by rw [hF19 k_ j_ (fun w_ => h_ (w_.elim (fun x0_ => Or.inl (x0_)) (fun y0_ => y0_.elim (fun x1_ => Or.inr (Or.inl (x1_))) (fun y1_ => y1_.elim (fun x2_ => Or.inr (Or.inr (Or.inl (x2_)))) (fun y2_ => y2_.elim (fun x3_ => Or.inr (Or.inr (Or.inr (Or.inl (x3_))))) (fun y3_ => y3_.elim (fun x4_ => Or.inr (Or.inr (Or.inr (Or.inr (Or.inl (x4_)))))) (fun y4_ => y4_.elim (fun x5_ => Or.inr (Or.inr (Or.inr (Or.inr (Or.inr (Or.inl (x5_))))))) (fun y5_ => y5_.elim (fun x6_ => Or.inr (Or.inr (Or.inr (Or.inr (Or.inr (Or.inr (Or.inl (x6_)))))))) (fun y6_ => y6_.elim (fun x7_ => Or.inr (Or.inr (Or.inr (Or.inr (Or.inr (Or.inr (Or.inr (Or.inl (x7_))))))))) (fun y7_ => y7_.elim (fun x8_ => Or.inr (Or.inr (Or.inr (Or.inr (Or.inr (Or.inr (Or.inr (Or.inr (Or.inl (x8_)))))))))) (fun y8_ => y8_.elim (fun x9_ => Or.inr (Or.inr (Or.inr (Or.inr (Or.inr (Or.inr (Or.inr (Or.inr (Or.inr (Or.inl (x9_))))))))))) (fun y9_ => y9_.elim (fun x10_ => Or.inr (Or.inr (Or.inr (Or.inr (Or.inr (Or.inr (Or.inr (Or.inr (Or.inr (Or.inr (Or.inl (x10_)))))))))))) (fun y10_ => Or.inr (Or.inr (Or.inr (Or.inr (Or.inr (Or.inr (Or.inr (Or.inr (Or.inr (Or.inr (Or.inr (y10_)))))))))))))))))))))))), hfσ4 k_ j_ (fun w_ => h_ (w_.elim (fun x0_ => Or.inr (Or.inr (Or.inr (Or.inr (Or.inr (Or.inr (Or.inr (Or.inr (Or.inr (Or.inr (Or.inr (dk_wr (lo := 164) (hi := 167) x0_.1 (by decide))))))))))))) (fun y0_ => y0_.elim (fun x1_ => Or.inr (Or.inr (Or.inr (Or.inr (Or.inr (Or.inr (Or.inr (Or.inr (Or.inr (Or.inr (Or.inr (dk_wr (lo := 164) (hi := 167) x1_.1 (by decide))))))))))))) (fun y1_ => Or.inr (Or.inr (Or.inr (Or.inr (Or.inr (Or.inr (Or.inr (Or.inr (Or.inr (Or.inr (Or.inl (y1_))))))))))))))), eσ2, dk_up_n (show ¬ (k_ = 141 ∧ j_ = 44) from fun q_ => h_ (Or.inr (Or.inr (Or.inr (Or.inr (Or.inr (Or.inr (Or.inr (Or.inr (Or.inr (Or.inl (q_)))))))))))), eσ1, dk_up_n (show ¬ (k_ = 141 ∧ j_ = 45) from fun q_ => h_ (Or.inr (Or.inr (Or.inr (Or.inr (Or.inr (Or.inr (Or.inr (Or.inr (Or.inr (Or.inr (Or.inl (q_)))))))))))))]), hPX.1⟩
  have hz35 : σ4 141 4 = σ 141 4 := by rw [hfσ4 141 4 (by omega), eσ2, dk_up_n (show ¬ (141 = 141 ∧ 4 = 44) by omega), eσ1, dk_up_n (show ¬ (141 = 141 ∧ 4 = 45) by omega)]
  have hz36 : σ4 141 3 = σ 141 3 := by rw [hfσ4 141 3 (by omega), eσ2, dk_up_n (show ¬ (141 = 141 ∧ 3 = 44) by omega), eσ1, dk_up_n (show ¬ (141 = 141 ∧ 3 = 45) by omega)]
  have hz37 : σ4 141 6 = σ 141 6 := by rw [hfσ4 141 6 (by omega), eσ2, dk_up_n (show ¬ (141 = 141 ∧ 6 = 44) by omega), eσ1, dk_up_n (show ¬ (141 = 141 ∧ 6 = 45) by omega)]
  have hz38 : σ4 141 45 = 0 + 1 := by rw [(hpr5.2.2).symm]
  have hz39 : σ4 141 4 = σ 141 4 := by rw [hfσ4 141 4 (by omega), eσ2, dk_up_n (show ¬ (141 = 141 ∧ 4 = 44) by omega), eσ1, dk_up_n (show ¬ (141 = 141 ∧ 4 = 45) by omega)]
  exact lp19 _ 1 σ4 (Nat.lt_succ_self _) (fun k_ j_ h_ => rfl) (by first | exact ⟨1, PX_all (QX_of hT hB hc) hc.symm (fun k_ j_ e1_ e2_ e3_ => by rw [hfσ4 k_ j_ (by omega), eσ2, dk_up_n (show ¬ (k_ = 141 ∧ j_ = 44) by omega), eσ1, dk_up_n (show ¬ (k_ = 141 ∧ j_ = 45) by omega)]) (by omega) (by omega) hp66, fun _ => rfl⟩ | exact ⟨_, PX_px hPX H38.1, fun _ => rfl⟩ | exact ⟨_, PX_px hPX a_, b_⟩) (by omega) (by omega)
set_option maxHeartbeats 4000000 in
set_option maxRecDepth 20000 in
theorem ct_X11_readRule (l : Launch) (G : dkG) (hGd : dk_Gd G) (c r : Int) : dk_Ct l G dk_Ty yX11_readRule cX11_readRule 2 (none) 6 190 190 (fun av σ => av = [(4, 141)] ∧ (TK σ) ∧ (σ 141 3 ≤ 600) ∧ (RS r σ) ∧ (c = σ 141 42) ∧ (σ 141 4 = 0)) (fun _ σ r_ σ' => r_ = none ∧ (∀ k_ j_ : Int, ¬ ((k_ = 141 ∧ j_ = 4) ∨ (k_ = 141 ∧ j_ = 5) ∨ (k_ = 141 ∧ j_ = 6) ∨ (k_ = 141 ∧ j_ = 7) ∨ (k_ = 141 ∧ j_ = 8) ∨ (k_ = 141 ∧ j_ = 9) ∨ (k_ = 141 ∧ j_ = 10) ∨ (k_ = 141 ∧ j_ = 42) ∨ (k_ = 141 ∧ j_ = 43) ∨ (k_ = 141 ∧ j_ = 44) ∨ (k_ = 141 ∧ j_ = 45) ∨ (164 ≤ k_ ∧ k_ ≤ 167) ∨ (162 ≤ k_ ∧ k_ ≤ 163) ∨ k_ = 169) → σ' k_ j_ = σ k_ j_) ∧ (NX σ σ' ∧ RS r σ' ∧ (σ 141 4 = 0 → σ 141 8 ≠ 0 → 1 ≤ σ' 141 4 ∨ σ 141 6 < σ' 141 6))) := by
  refine dk_enter hGd (by decide) (fun av σ hpre hok => ?_)
  obtain ⟨rfl, hT, hS, hRS, hc, h4⟩ := hpre
  refine ⟨Nat.le_of_ble_eq_true rfl, fun E hE hR _ => ?_⟩
  show dk_PJ E 0 [(4, 141), (9, 0)] [] 190 σ
  have hb0 := hRS.1.2
  refine dk_aload_n (pc' := 1) hE dX11_readRule_0 rfl rfl rfl ?_
  refine dk_ldc2 (pc' := 4) hE dX11_readRule_1 cs_X11_182 (by decide) rfl ?_
  refine dk_cV (pc' := 7) (as := [(3, 7168377)]) hE lk_X11_281 (ct_X11_isWord l G hGd 7168377) dX11_readRule_4 rfl is_141 rfl (by decide) (Nat.le_of_ble_eq_true rfl) rfl rfl (fun r2 σ1 hr2 hor2 => ?_)
  obtain ⟨v3, rfl, hfσ1, hpr2⟩ := hr2
  have hsσ1 : σ = σ1 := (funext (fun k => funext (fun j => hfσ1 k j not_false))).symm
  subst hsσ1
  rcases hpr2 with ⟨rfl, hpr2⟩ | rfl
  · skip
    refine dk_if_eq (tgt := 14) (pc' := 10) hE dX11_readRule_7 (by decide) rfl (fun hc4 => absurd hc4 (by decide)) (fun hc4 => ?_)
    refine dk_iconst (pc' := 11) hE dX11_readRule_10 (by decide) rfl ?_
    refine dk_goto (tgt := 43) hE dX11_readRule_11 (by decide) ?_
    refine dk_istore_n (pc' := 44) (ls' := [(4, 141), (0, 0)]) hE dX11_readRule_43 rfl rfl (by decide) rfl ?_
    refine dk_iload_n (pc' := 45) hE dX11_readRule_44 rfl rfl rfl ?_
    refine dk_if_lt (tgt := 72) (pc' := 48) hE dX11_readRule_45 (by decide) rfl (fun hc5 => absurd hc5 (by decide)) (fun hc5 => ?_)
    refine dk_aload_n (pc' := 49) hE dX11_readRule_48 rfl rfl rfl ?_
    refine gf_11_40 (pc' := 52) (w := 169) hE fl_X11_98 dX11_readRule_49 is_141 rfl rfl ?_
    refine dk_iconst (pc' := 53) hE dX11_readRule_52 (by decide) rfl ?_
    refine dk_aload_n (pc' := 54) hE dX11_readRule_53 rfl rfl rfl ?_
    refine gf_11_41 (pc' := 57) hE fl_X11_374 dX11_readRule_54 is_141 rfl (fun v6 hv6 htv6 hbv6 => ?_)
    obtain ⟨v7, hv7⟩ : ∃ z : Int, z = 3 * v6 := ⟨_, rfl⟩
    refine dk_imul (pc' := 58) hE dX11_readRule_57 hv7.symm (by omega) rfl ?_
    refine dk_iload_n (pc' := 59) hE dX11_readRule_58 rfl rfl rfl ?_
    refine dk_if_ge (tgt := 66) (pc' := 62) hE dX11_readRule_59 (by decide) rfl (fun hc8 => ?_) (fun hc8 => absurd hc8 (by decide))
    refine dk_iload_n (pc' := 67) hE dX11_readRule_66 rfl rfl rfl ?_
    obtain ⟨v9, hv9⟩ : ∃ z : Int, z = v7 + 0 := ⟨_, rfl⟩
    refine dk_iadd (pc' := 68) hE dX11_readRule_67 hv9.symm (by omega) rfl ?_
    refine ga_97 (pc' := 69) hE dX11_readRule_68 is_169 (by omega) rfl (fun v10 hv10 htv10 hbv10 => ?_)
    refine dk_if_eq (tgt := 76) (pc' := 72) hE dX11_readRule_69 (by decide) rfl (fun hc11 => ?_) (fun hc11 => ?_)
    · skip
      refine dk_aload_n (pc' := 77) hE dX11_readRule_76 rfl rfl rfl ?_
      refine dk_cV (pc' := 80) (as := []) hE lk_X11_250 (ct_X11_isGood l G hGd) dX11_readRule_77 rfl is_141 rfl (by decide) (Nat.le_of_ble_eq_true rfl) rfl rfl (fun r13 σ12 hr13 hor13 => ?_)
      obtain ⟨v14, rfl, hfσ12, hpr13⟩ := hr13
      have hsσ12 : σ = σ12 := (funext (fun k => funext (fun j => hfσ12 k j not_false))).symm
      subst hsσ12
      rcases hpr13 with ⟨rfl, hpr13⟩ | ⟨rfl, hpr13⟩
      · skip
        refine dk_if_ne (tgt := 84) (pc' := 83) hE dX11_readRule_80 (by decide) rfl (fun hc15 => ?_) (fun hc15 => absurd hc15 (by decide))
        refine dk_aload_n (pc' := 85) hE dX11_readRule_84 rfl rfl rfl ?_
        refine dk_cV (pc' := 88) (as := []) hE lk_X11_254 (ct_X11_next l G hGd) dX11_readRule_85 rfl is_141 rfl (by decide) (Nat.le_of_ble_eq_true rfl) ⟨rfl, ((NX_tk ((QX_of hT hRS.1 hc)).1).2.1), (by omega)⟩ rfl (fun r17 σ16 hr17 hor17 => ?_)
        obtain ⟨rfl, hfσ16, hpr17⟩ := hr17
        have H85 := hpr17
        have gi18 : QX c r σ σ16 := QX_y (QX_of hT hRS.1 hc) hpr17 (fun k_ j_ h_ => hfσ16 k_ j_ (by omega))
        have hB : QX c r σ σ16 := gi18
        have hB2 : σ16 141 42 = c := by rw [hfσ16 141 42 (by omega)]; exact hc.symm
        have gi19 : QX c r σ16 σ16 := QX_of (NX_tk hB.1) hB.2.1 hB2.symm
        refine dk_iload_n (pc' := 89) hE dX11_readRule_88 rfl rfl rfl ?_
        refine dk_iconst (pc' := 90) hE dX11_readRule_89 (by decide) rfl ?_
        refine dk_icmp_eq (tgt := 104) (pc' := 93) hE dX11_readRule_90 (by decide) rfl (fun hc20 => absurd hc20 (by decide)) (fun hc20 => ?_)
        refine dk_aload_n (pc' := 94) hE dX11_readRule_93 rfl rfl rfl ?_
        refine dk_aload_n (pc' := 95) hE dX11_readRule_94 rfl rfl rfl ?_
        refine dk_ldc2 (pc' := 98) hE dX11_readRule_95 cs_X11_188 (by decide) rfl ?_
        refine dk_cV (pc' := 101) (as := [(3, 2003330414)]) hE lk_X11_281 (ct_X11_isWord l G hGd 2003330414) dX11_readRule_98 rfl is_141 rfl (by decide) (Nat.le_of_ble_eq_true rfl) rfl rfl (fun r22 σ21 hr22 hor22 => ?_)
        obtain ⟨v23, rfl, hfσ21, hpr22⟩ := hr22
        have hsσ21 : σ16 = σ21 := (funext (fun k => funext (fun j => hfσ21 k j not_false))).symm
        subst hsσ21
        rcases hpr22 with ⟨rfl, hpr22⟩ | rfl
        · skip
          have hz24 : σ16 141 3 = σ 141 3 := by rw [hfσ16 141 3 (by omega)]
          refine dk_cV (pc' := 104) (as := [(0, 1)]) hE lk_X11_301 (ct_X11_must l G hGd 1) dX11_readRule_101 rfl is_141 rfl (by decide) (Nat.le_of_ble_eq_true rfl) ⟨rfl, (NX_tk (gi19).1), (by omega)⟩ rfl (fun r26 σ25 hr26 hor26 => ?_)
          obtain ⟨rfl, hfσ25, hpr26⟩ := hr26
          have gi27 : QX c r σ16 σ25 := QX_tr gi19 hpr26 (fun k_ j_ h_ => hfσ25 k_ j_ (by omega))
          obtain ⟨i, hi⟩ : ∃ i : Int, i = 3 * r + 0 := ⟨_, rfl⟩
          have gi28 : QX c r σ16 σ25 := gi27
          refine dk_aload_n (pc' := 105) hE dX11_readRule_104 rfl rfl rfl ?_
          refine gf_11_33 (pc' := 108) (w := 162) hE fl_X11_77 dX11_readRule_105 is_141 rfl rfl ?_
          refine dk_iconst (pc' := 109) hE dX11_readRule_108 (by decide) rfl ?_
          refine dk_aload_n (pc' := 110) hE dX11_readRule_109 rfl rfl rfl ?_
          refine gf_11_41 (pc' := 113) hE fl_X11_374 dX11_readRule_110 is_141 rfl (fun v29 hv29 htv29 hbv29 => ?_)
          have hq29 : v6 = v29 := (show v29 = v6 by rw [hv29, hfσ25 141 41 (by omega), hfσ16 141 41 (by omega), hv6]).symm
          subst hq29
          clear htv29 hbv29
          obtain ⟨v30, hv30⟩ : ∃ z : Int, z = 3 * v6 := ⟨_, rfl⟩
          refine dk_imul (pc' := 114) hE dX11_readRule_113 hv30.symm (by omega) rfl ?_
          refine dk_iload_n (pc' := 115) hE dX11_readRule_114 rfl rfl rfl ?_
          obtain ⟨v31, hv31⟩ : ∃ z : Int, z = v30 + 0 := ⟨_, rfl⟩
          refine dk_iadd (pc' := 116) hE dX11_readRule_115 hv31.symm (by omega) rfl ?_
          have hrnv31 : i = v31 := by omega
          subst hrnv31
          refine dk_aload_n (pc' := 117) hE dX11_readRule_116 rfl rfl rfl ?_
          refine gf_11_42 (pc' := 120) hE fl_X11_377 dX11_readRule_117 is_141 rfl (fun v32 hv32 htv32 hbv32 => ?_)
          have hq32 : c = v32 := (show v32 = c by rw [hv32, hfσ25 141 42 (by omega), hfσ16 141 42 (by omega), hc]).symm
          subst hq32
          clear htv32 hbv32
          refine pa_90 (pc' := 121) hE dX11_readRule_120 is_162 (by omega) trivial rfl (fun σ33 eσ33 => ?_)
          have gi34 : QX c r σ16 σ33 := QX_u gi28 (by omega) (by omega) eσ33
          refine dk_aload_n (pc' := 122) hE dX11_readRule_121 rfl rfl rfl ?_
          refine dk_cV (pc' := 125) (as := []) hE lk_X11_250 (ct_X11_isGood l G hGd) dX11_readRule_122 rfl is_141 rfl (by decide) (Nat.le_of_ble_eq_true rfl) rfl rfl (fun r36 σ35 hr36 hor36 => ?_)
          obtain ⟨v37, rfl, hfσ35, hpr36⟩ := hr36
          have hsσ35 : σ33 = σ35 := (funext (fun k => funext (fun j => hfσ35 k j not_false))).symm
          subst hsσ35
          rcases hpr36 with ⟨rfl, hpr36⟩ | ⟨rfl, hpr36⟩
          · skip
            refine dk_if_eq (tgt := 132) (pc' := 128) hE dX11_readRule_125 (by decide) rfl (fun hc38 => absurd hc38 (by decide)) (fun hc38 => ?_)
            refine dk_aload_n (pc' := 129) hE dX11_readRule_128 rfl rfl rfl ?_
            have hz39 : σ33 141 3 = σ 141 3 := by rw [eσ33, dk_up_n (show ¬ (141 = 162 ∧ 3 = i) by omega), hfσ25 141 3 (by omega), hfσ16 141 3 (by omega)]
            have hz40 : σ33 141 42 = c := by rw [eσ33, dk_up_n (show ¬ (141 = 162 ∧ 42 = i) by omega), hv32]
            refine dk_cV (pc' := 132) (as := []) hE lk_X11_386 (ct_X11_e l G hGd c r) dX11_readRule_129 rfl is_141 rfl (by decide) (Nat.le_of_ble_eq_true rfl) ⟨rfl, (NX_tk (gi34).1), (by omega), ((gi34).2.1), (by omega), (by omega)⟩ rfl (fun r42 σ41 hr42 hor42 => ?_)
            obtain ⟨rfl, hfσ41, hpr42⟩ := hr42
            have hz43 : σ33 141 42 = c := by rw [eσ33, dk_up_n (show ¬ (141 = 162 ∧ 42 = i) by omega), hv32]
            have gi44 : QX c r σ16 σ41 := QX_qx gi34 (by omega) hpr42
            refine dk_aload_n (pc' := 133) hE dX11_readRule_132 rfl rfl rfl ?_
            refine gf_11_34 (pc' := 136) (w := 163) hE fl_X11_80 dX11_readRule_133 is_141 rfl rfl ?_
            refine dk_iconst (pc' := 137) hE dX11_readRule_136 (by decide) rfl ?_
            refine dk_aload_n (pc' := 138) hE dX11_readRule_137 rfl rfl rfl ?_
            refine gf_11_41 (pc' := 141) hE fl_X11_374 dX11_readRule_138 is_141 rfl (fun v45 hv45 htv45 hbv45 => ?_)
            have hq45 : v6 = v45 := (show v45 = v6 by rw [hv45, hfσ41 141 41 (by omega), eσ33, dk_up_n (show ¬ (141 = 162 ∧ 41 = i) by omega), hv29]).symm
            subst hq45
            clear htv45 hbv45
            obtain ⟨v46, hv46⟩ : ∃ z : Int, z = 3 * v6 := ⟨_, rfl⟩
            refine dk_imul (pc' := 142) hE dX11_readRule_141 hv46.symm (by omega) rfl ?_
            refine dk_iload_n (pc' := 143) hE dX11_readRule_142 rfl rfl rfl ?_
            obtain ⟨v47, hv47⟩ : ∃ z : Int, z = v46 + 0 := ⟨_, rfl⟩
            refine dk_iadd (pc' := 144) hE dX11_readRule_143 hv47.symm (by omega) rfl ?_
            have hrnv47 : i = v47 := by omega
            subst hrnv47
            refine dk_aload_n (pc' := 145) hE dX11_readRule_144 rfl rfl rfl ?_
            refine gf_11_42 (pc' := 148) hE fl_X11_377 dX11_readRule_145 is_141 rfl (fun v48 hv48 htv48 hbv48 => ?_)
            refine pa_91 (pc' := 149) hE dX11_readRule_148 is_163 (by omega) trivial rfl (fun σ49 eσ49 => ?_)
            have gi50 : QX c r σ16 σ49 := QX_u gi44 (by omega) (by omega) eσ49
            refine dk_aload_n (pc' := 150) hE dX11_readRule_149 rfl rfl rfl ?_
            refine gf_11_40 (pc' := 153) (w := 169) hE fl_X11_98 dX11_readRule_150 is_141 rfl rfl ?_
            refine dk_iconst (pc' := 154) hE dX11_readRule_153 (by decide) rfl ?_
            refine dk_aload_n (pc' := 155) hE dX11_readRule_154 rfl rfl rfl ?_
            refine gf_11_41 (pc' := 158) hE fl_X11_374 dX11_readRule_155 is_141 rfl (fun v51 hv51 htv51 hbv51 => ?_)
            have hq51 : v6 = v51 := (show v51 = v6 by rw [hv51, eσ49, dk_up_n (show ¬ (141 = 163 ∧ 41 = i) by omega), hv45]).symm
            subst hq51
            clear htv51 hbv51
            obtain ⟨v52, hv52⟩ : ∃ z : Int, z = 3 * v6 := ⟨_, rfl⟩
            refine dk_imul (pc' := 159) hE dX11_readRule_158 hv52.symm (by omega) rfl ?_
            refine dk_iload_n (pc' := 160) hE dX11_readRule_159 rfl rfl rfl ?_
            obtain ⟨v53, hv53⟩ : ∃ z : Int, z = v52 + 0 := ⟨_, rfl⟩
            refine dk_iadd (pc' := 161) hE dX11_readRule_160 hv53.symm (by omega) rfl ?_
            have hrnv53 : i = v53 := by omega
            subst hrnv53
            refine dk_iconst (pc' := 162) hE dX11_readRule_161 (by decide) rfl ?_
            refine pa_97 (pc' := 163) hE dX11_readRule_162 is_169 (by omega) (by omega) trivial rfl (fun σ54 eσ54 => ?_)
            have gi55 : QX c r σ16 σ54 := QX_u gi50 (by omega) (by omega) eσ54
            refine dk_aload_n (pc' := 164) hE dX11_readRule_163 rfl rfl rfl ?_
            refine dk_aload_n (pc' := 165) hE dX11_readRule_164 rfl rfl rfl ?_
            refine dk_bipush (pc' := 167) hE dX11_readRule_165 (by decide) rfl ?_
            refine dk_cV (pc' := 170) (as := [(0, 59)]) hE lk_X11_298 (ct_X11_is l G hGd 59) dX11_readRule_167 rfl is_141 rfl (by decide) (Nat.le_of_ble_eq_true rfl) rfl rfl (fun r57 σ56 hr57 hor57 => ?_)
            obtain ⟨v58, rfl, hfσ56, hpr57⟩ := hr57
            have hsσ56 : σ54 = σ56 := (funext (fun k => funext (fun j => hfσ56 k j not_false))).symm
            subst hsσ56
            rcases hpr57 with ⟨rfl, hpr57⟩ | rfl
            · skip
              have hz59 : σ54 141 3 = σ 141 3 := by rw [eσ54, dk_up_n (show ¬ (141 = 169 ∧ 3 = i) by omega), eσ49, dk_up_n (show ¬ (141 = 163 ∧ 3 = i) by omega), hfσ41 141 3 (by omega), eσ33, dk_up_n (show ¬ (141 = 162 ∧ 3 = i) by omega), hfσ25 141 3 (by omega), hfσ16 141 3 (by omega)]
              refine dk_cV (pc' := 173) (as := [(0, 1)]) hE lk_X11_301 (ct_X11_must l G hGd 1) dX11_readRule_170 rfl is_141 rfl (by decide) (Nat.le_of_ble_eq_true rfl) ⟨rfl, (NX_tk (gi55).1), (by omega)⟩ rfl (fun r61 σ60 hr61 hor61 => ?_)
              obtain ⟨rfl, hfσ60, hpr61⟩ := hr61
              have gi62 : QX c r σ16 σ60 := QX_tr gi55 hpr61 (fun k_ j_ h_ => hfσ60 k_ j_ (by omega))
              have hz63 : σ60 141 42 = v48 := by rw [hfσ60 141 42 (by omega), eσ54, dk_up_n (show ¬ (141 = 169 ∧ 42 = i) by omega), eσ49, dk_up_n (show ¬ (141 = 163 ∧ 42 = i) by omega), hv48]
              exact dk_vret (st := []) hE hR dX11_readRule_173 ⟨rfl, (fun k_ j_ h_ => by rw [hfσ60 k_ j_ (fun w_ => h_ (w_.elim (fun x0_ => Or.inl (x0_)) (fun y0_ => y0_.elim (fun x1_ => Or.inr (Or.inl (x1_))) (fun y1_ => y1_.elim (fun x2_ => Or.inr (Or.inr (Or.inl (x2_)))) (fun y2_ => y2_.elim (fun x3_ => Or.inr (Or.inr (Or.inr (Or.inl (x3_))))) (fun y3_ => y3_.elim (fun x4_ => Or.inr (Or.inr (Or.inr (Or.inr (Or.inl (x4_)))))) (fun y4_ => y4_.elim (fun x5_ => Or.inr (Or.inr (Or.inr (Or.inr (Or.inr (Or.inl (x5_))))))) (fun y5_ => Or.inr (Or.inr (Or.inr (Or.inr (Or.inr (Or.inr (Or.inl (y5_))))))))))))))), eσ54, dk_up_n (show ¬ (k_ = 169 ∧ j_ = i) from fun q_ => h_ (Or.inr (Or.inr (Or.inr (Or.inr (Or.inr (Or.inr (Or.inr (Or.inr (Or.inr (Or.inr (Or.inr (Or.inr (Or.inr (q_.1))))))))))))))), eσ49, dk_up_n (show ¬ (k_ = 163 ∧ j_ = i) from fun q_ => h_ (Or.inr (Or.inr (Or.inr (Or.inr (Or.inr (Or.inr (Or.inr (Or.inr (Or.inr (Or.inr (Or.inr (Or.inr (Or.inl (dk_wr (lo := 162) (hi := 163) q_.1 (by decide)))))))))))))))), hfσ41 k_ j_ (fun w_ => h_ (w_.elim (fun x0_ => Or.inl (x0_)) (fun y0_ => y0_.elim (fun x1_ => Or.inr (Or.inl (x1_))) (fun y1_ => y1_.elim (fun x2_ => Or.inr (Or.inr (Or.inl (x2_)))) (fun y2_ => y2_.elim (fun x3_ => Or.inr (Or.inr (Or.inr (Or.inl (x3_))))) (fun y3_ => y3_.elim (fun x4_ => Or.inr (Or.inr (Or.inr (Or.inr (Or.inl (x4_)))))) (fun y4_ => y4_.elim (fun x5_ => Or.inr (Or.inr (Or.inr (Or.inr (Or.inr (Or.inl (x5_))))))) (fun y5_ => y5_.elim (fun x6_ => Or.inr (Or.inr (Or.inr (Or.inr (Or.inr (Or.inr (Or.inl (x6_)))))))) (fun y6_ => y6_.elim (fun x7_ => Or.inr (Or.inr (Or.inr (Or.inr (Or.inr (Or.inr (Or.inr (Or.inl (x7_))))))))) (fun y7_ => y7_.elim (fun x8_ => Or.inr (Or.inr (Or.inr (Or.inr (Or.inr (Or.inr (Or.inr (Or.inr (Or.inl (x8_)))))))))) (fun y8_ => y8_.elim (fun x9_ => Or.inr (Or.inr (Or.inr (Or.inr (Or.inr (Or.inr (Or.inr (Or.inr (Or.inr (Or.inl (x9_))))))))))) (fun y9_ => y9_.elim (fun x10_ => Or.inr (Or.inr (Or.inr (Or.inr (Or.inr (Or.inr (Or.inr (Or.inr (Or.inr (Or.inr (Or.inl (x10_)))))))))))) (fun y10_ => Or.inr (Or.inr (Or.inr (Or.inr (Or.inr (Or.inr (Or.inr (Or.inr (Or.inr (Or.inr (Or.inr (Or.inl (y10_))))))))))))))))))))))))), eσ33, dk_up_n (show ¬ (k_ = 162 ∧ j_ = i) from fun q_ => h_ (Or.inr (Or.inr (Or.inr (Or.inr (Or.inr (Or.inr (Or.inr (Or.inr (Or.inr (Or.inr (Or.inr (Or.inr (Or.inl (dk_wr (lo := 162) (hi := 163) q_.1 (by decide)))))))))))))))), hfσ25 k_ j_ (fun w_ => h_ (w_.elim (fun x0_ => Or.inl (x0_)) (fun y0_ => y0_.elim (fun x1_ => Or.inr (Or.inl (x1_))) (fun y1_ => y1_.elim (fun x2_ => Or.inr (Or.inr (Or.inl (x2_)))) (fun y2_ => y2_.elim (fun x3_ => Or.inr (Or.inr (Or.inr (Or.inl (x3_))))) (fun y3_ => y3_.elim (fun x4_ => Or.inr (Or.inr (Or.inr (Or.inr (Or.inl (x4_)))))) (fun y4_ => y4_.elim (fun x5_ => Or.inr (Or.inr (Or.inr (Or.inr (Or.inr (Or.inl (x5_))))))) (fun y5_ => Or.inr (Or.inr (Or.inr (Or.inr (Or.inr (Or.inr (Or.inl (y5_))))))))))))))), hfσ16 k_ j_ (fun w_ => h_ (w_.elim (fun x0_ => Or.inr (Or.inr (Or.inl (x0_)))) (fun y0_ => y0_.elim (fun x1_ => Or.inr (Or.inr (Or.inr (Or.inl (x1_))))) (fun y1_ => y1_.elim (fun x2_ => Or.inr (Or.inr (Or.inr (Or.inr (Or.inl (x2_)))))) (fun y2_ => y2_.elim (fun x3_ => Or.inr (Or.inr (Or.inr (Or.inr (Or.inr (Or.inl (x3_))))))) (fun y3_ => Or.inr (Or.inr (Or.inr (Or.inr (Or.inr (Or.inr (Or.inl (y3_)))))))))))))]), ⟨NX_tr hB.1 (gi62).1, RS_line (n := 0) hRS hc.symm (QX_qx hB hB2 gi62) (by omega) (fun j_ h_ => ⟨by rw [hfσ60 162 j_ (by omega), eσ54, dk_up_n (show ¬ (162 = 169 ∧ j_ = i) by omega), eσ49, dk_up_n (show ¬ (162 = 163 ∧ j_ = i) by omega), hfσ41 162 j_ (by omega), eσ33, dk_up_n (show ¬ (162 = 162 ∧ j_ = i) by omega), hfσ25 162 j_ (by omega), hfσ16 162 j_ (by omega)], by rw [hfσ60 163 j_ (by omega), eσ54, dk_up_n (show ¬ (163 = 169 ∧ j_ = i) by omega), eσ49, dk_up_n (show ¬ (163 = 163 ∧ j_ = i) by omega), hfσ41 163 j_ (by omega), eσ33, dk_up_n (show ¬ (163 = 162 ∧ j_ = i) by omega), hfσ25 163 j_ (by omega), hfσ16 163 j_ (by omega)], by rw [hfσ60 169 j_ (by omega), eσ54, dk_up_n (show ¬ (169 = 169 ∧ j_ = i) by omega), eσ49, dk_up_n (show ¬ (169 = 163 ∧ j_ = i) by omega), hfσ41 169 j_ (by omega), eσ33, dk_up_n (show ¬ (169 = 162 ∧ j_ = i) by omega), hfσ25 169 j_ (by omega), hfσ16 169 j_ (by omega)]⟩) (fun _ => ⟨by rw [← hi, hfσ60 162 i (by omega), eσ54, dk_up_n (show ¬ (162 = 169 ∧ i = i) by omega), eσ49, dk_up_n (show ¬ (162 = 163 ∧ i = i) by omega), hfσ41 162 i (by omega), eσ33, dk_up_s], by rw [← hi, hfσ60 163 i (by omega), eσ54, dk_up_n (show ¬ (163 = 169 ∧ i = i) by omega), eσ49, dk_up_s]; omega⟩), fun a_ q_ => Or.inr (by have x_ := (gi62).1.2.2.1; have t_ := hT.2.2 q_; have y_ := H85.2.2.1; omega)⟩⟩
            · skip
              have hz64 : σ54 141 3 = σ 141 3 := by rw [eσ54, dk_up_n (show ¬ (141 = 169 ∧ 3 = i) by omega), eσ49, dk_up_n (show ¬ (141 = 163 ∧ 3 = i) by omega), hfσ41 141 3 (by omega), eσ33, dk_up_n (show ¬ (141 = 162 ∧ 3 = i) by omega), hfσ25 141 3 (by omega), hfσ16 141 3 (by omega)]
              refine dk_cV (pc' := 173) (as := [(0, 0)]) hE lk_X11_301 (ct_X11_must l G hGd 0) dX11_readRule_170 rfl is_141 rfl (by decide) (Nat.le_of_ble_eq_true rfl) ⟨rfl, (NX_tk (gi55).1), (by omega)⟩ rfl (fun r66 σ65 hr66 hor66 => ?_)
              obtain ⟨rfl, hfσ65, hpr66⟩ := hr66
              have gi67 : QX c r σ16 σ65 := QX_tr gi55 hpr66 (fun k_ j_ h_ => hfσ65 k_ j_ (by omega))
              have hz68 : σ65 141 42 = v48 := by rw [hfσ65 141 42 (by omega), eσ54, dk_up_n (show ¬ (141 = 169 ∧ 42 = i) by omega), eσ49, dk_up_n (show ¬ (141 = 163 ∧ 42 = i) by omega), hv48]
              exact dk_vret (st := []) hE hR dX11_readRule_173 ⟨rfl, (fun k_ j_ h_ => by rw [hfσ65 k_ j_ (fun w_ => h_ (w_.elim (fun x0_ => Or.inl (x0_)) (fun y0_ => y0_.elim (fun x1_ => Or.inr (Or.inl (x1_))) (fun y1_ => y1_.elim (fun x2_ => Or.inr (Or.inr (Or.inl (x2_)))) (fun y2_ => y2_.elim (fun x3_ => Or.inr (Or.inr (Or.inr (Or.inl (x3_))))) (fun y3_ => y3_.elim (fun x4_ => Or.inr (Or.inr (Or.inr (Or.inr (Or.inl (x4_)))))) (fun y4_ => y4_.elim (fun x5_ => Or.inr (Or.inr (Or.inr (Or.inr (Or.inr (Or.inl (x5_))))))) (fun y5_ => Or.inr (Or.inr (Or.inr (Or.inr (Or.inr (Or.inr (Or.inl (y5_))))))))))))))), eσ54, dk_up_n (show ¬ (k_ = 169 ∧ j_ = i) from fun q_ => h_ (Or.inr (Or.inr (Or.inr (Or.inr (Or.inr (Or.inr (Or.inr (Or.inr (Or.inr (Or.inr (Or.inr (Or.inr (Or.inr (q_.1))))))))))))))), eσ49, dk_up_n (show ¬ (k_ = 163 ∧ j_ = i) from fun q_ => h_ (Or.inr (Or.inr (Or.inr (Or.inr (Or.inr (Or.inr (Or.inr (Or.inr (Or.inr (Or.inr (Or.inr (Or.inr (Or.inl (dk_wr (lo := 162) (hi := 163) q_.1 (by decide)))))))))))))))), hfσ41 k_ j_ (fun w_ => h_ (w_.elim (fun x0_ => Or.inl (x0_)) (fun y0_ => y0_.elim (fun x1_ => Or.inr (Or.inl (x1_))) (fun y1_ => y1_.elim (fun x2_ => Or.inr (Or.inr (Or.inl (x2_)))) (fun y2_ => y2_.elim (fun x3_ => Or.inr (Or.inr (Or.inr (Or.inl (x3_))))) (fun y3_ => y3_.elim (fun x4_ => Or.inr (Or.inr (Or.inr (Or.inr (Or.inl (x4_)))))) (fun y4_ => y4_.elim (fun x5_ => Or.inr (Or.inr (Or.inr (Or.inr (Or.inr (Or.inl (x5_))))))) (fun y5_ => y5_.elim (fun x6_ => Or.inr (Or.inr (Or.inr (Or.inr (Or.inr (Or.inr (Or.inl (x6_)))))))) (fun y6_ => y6_.elim (fun x7_ => Or.inr (Or.inr (Or.inr (Or.inr (Or.inr (Or.inr (Or.inr (Or.inl (x7_))))))))) (fun y7_ => y7_.elim (fun x8_ => Or.inr (Or.inr (Or.inr (Or.inr (Or.inr (Or.inr (Or.inr (Or.inr (Or.inl (x8_)))))))))) (fun y8_ => y8_.elim (fun x9_ => Or.inr (Or.inr (Or.inr (Or.inr (Or.inr (Or.inr (Or.inr (Or.inr (Or.inr (Or.inl (x9_))))))))))) (fun y9_ => y9_.elim (fun x10_ => Or.inr (Or.inr (Or.inr (Or.inr (Or.inr (Or.inr (Or.inr (Or.inr (Or.inr (Or.inr (Or.inl (x10_)))))))))))) (fun y10_ => Or.inr (Or.inr (Or.inr (Or.inr (Or.inr (Or.inr (Or.inr (Or.inr (Or.inr (Or.inr (Or.inr (Or.inl (y10_))))))))))))))))))))))))), eσ33, dk_up_n (show ¬ (k_ = 162 ∧ j_ = i) from fun q_ => h_ (Or.inr (Or.inr (Or.inr (Or.inr (Or.inr (Or.inr (Or.inr (Or.inr (Or.inr (Or.inr (Or.inr (Or.inr (Or.inl (dk_wr (lo := 162) (hi := 163) q_.1 (by decide)))))))))))))))), hfσ25 k_ j_ (fun w_ => h_ (w_.elim (fun x0_ => Or.inl (x0_)) (fun y0_ => y0_.elim (fun x1_ => Or.inr (Or.inl (x1_))) (fun y1_ => y1_.elim (fun x2_ => Or.inr (Or.inr (Or.inl (x2_)))) (fun y2_ => y2_.elim (fun x3_ => Or.inr (Or.inr (Or.inr (Or.inl (x3_))))) (fun y3_ => y3_.elim (fun x4_ => Or.inr (Or.inr (Or.inr (Or.inr (Or.inl (x4_)))))) (fun y4_ => y4_.elim (fun x5_ => Or.inr (Or.inr (Or.inr (Or.inr (Or.inr (Or.inl (x5_))))))) (fun y5_ => Or.inr (Or.inr (Or.inr (Or.inr (Or.inr (Or.inr (Or.inl (y5_))))))))))))))), hfσ16 k_ j_ (fun w_ => h_ (w_.elim (fun x0_ => Or.inr (Or.inr (Or.inl (x0_)))) (fun y0_ => y0_.elim (fun x1_ => Or.inr (Or.inr (Or.inr (Or.inl (x1_))))) (fun y1_ => y1_.elim (fun x2_ => Or.inr (Or.inr (Or.inr (Or.inr (Or.inl (x2_)))))) (fun y2_ => y2_.elim (fun x3_ => Or.inr (Or.inr (Or.inr (Or.inr (Or.inr (Or.inl (x3_))))))) (fun y3_ => Or.inr (Or.inr (Or.inr (Or.inr (Or.inr (Or.inr (Or.inl (y3_)))))))))))))]), ⟨NX_tr hB.1 (gi67).1, RS_line (n := 0) hRS hc.symm (QX_qx hB hB2 gi67) (by omega) (fun j_ h_ => ⟨by rw [hfσ65 162 j_ (by omega), eσ54, dk_up_n (show ¬ (162 = 169 ∧ j_ = i) by omega), eσ49, dk_up_n (show ¬ (162 = 163 ∧ j_ = i) by omega), hfσ41 162 j_ (by omega), eσ33, dk_up_n (show ¬ (162 = 162 ∧ j_ = i) by omega), hfσ25 162 j_ (by omega), hfσ16 162 j_ (by omega)], by rw [hfσ65 163 j_ (by omega), eσ54, dk_up_n (show ¬ (163 = 169 ∧ j_ = i) by omega), eσ49, dk_up_n (show ¬ (163 = 163 ∧ j_ = i) by omega), hfσ41 163 j_ (by omega), eσ33, dk_up_n (show ¬ (163 = 162 ∧ j_ = i) by omega), hfσ25 163 j_ (by omega), hfσ16 163 j_ (by omega)], by rw [hfσ65 169 j_ (by omega), eσ54, dk_up_n (show ¬ (169 = 169 ∧ j_ = i) by omega), eσ49, dk_up_n (show ¬ (169 = 163 ∧ j_ = i) by omega), hfσ41 169 j_ (by omega), eσ33, dk_up_n (show ¬ (169 = 162 ∧ j_ = i) by omega), hfσ25 169 j_ (by omega), hfσ16 169 j_ (by omega)]⟩) (fun _ => ⟨by rw [← hi, hfσ65 162 i (by omega), eσ54, dk_up_n (show ¬ (162 = 169 ∧ i = i) by omega), eσ49, dk_up_n (show ¬ (162 = 163 ∧ i = i) by omega), hfσ41 162 i (by omega), eσ33, dk_up_s], by rw [← hi, hfσ65 163 i (by omega), eσ54, dk_up_n (show ¬ (163 = 169 ∧ i = i) by omega), eσ49, dk_up_s]; omega⟩), fun a_ q_ => Or.inr (by have x_ := (gi67).1.2.2.1; have t_ := hT.2.2 q_; have y_ := H85.2.2.1; omega)⟩⟩
          · skip
            refine dk_if_eq (tgt := 132) (pc' := 128) hE dX11_readRule_125 (by decide) rfl (fun hc69 => ?_) (fun hc69 => absurd hc69 (by decide))
            refine dk_aload_n (pc' := 133) hE dX11_readRule_132 rfl rfl rfl ?_
            refine gf_11_34 (pc' := 136) (w := 163) hE fl_X11_80 dX11_readRule_133 is_141 rfl rfl ?_
            refine dk_iconst (pc' := 137) hE dX11_readRule_136 (by decide) rfl ?_
            refine dk_aload_n (pc' := 138) hE dX11_readRule_137 rfl rfl rfl ?_
            refine gf_11_41 (pc' := 141) hE fl_X11_374 dX11_readRule_138 is_141 rfl (fun v70 hv70 htv70 hbv70 => ?_)
            have hq70 : v6 = v70 := (show v70 = v6 by rw [hv70, eσ33, dk_up_n (show ¬ (141 = 162 ∧ 41 = i) by omega), hv29]).symm
            subst hq70
            clear htv70 hbv70
            obtain ⟨v71, hv71⟩ : ∃ z : Int, z = 3 * v6 := ⟨_, rfl⟩
            refine dk_imul (pc' := 142) hE dX11_readRule_141 hv71.symm (by omega) rfl ?_
            refine dk_iload_n (pc' := 143) hE dX11_readRule_142 rfl rfl rfl ?_
            obtain ⟨v72, hv72⟩ : ∃ z : Int, z = v71 + 0 := ⟨_, rfl⟩
            refine dk_iadd (pc' := 144) hE dX11_readRule_143 hv72.symm (by omega) rfl ?_
            have hrnv72 : i = v72 := by omega
            subst hrnv72
            refine dk_aload_n (pc' := 145) hE dX11_readRule_144 rfl rfl rfl ?_
            refine gf_11_42 (pc' := 148) hE fl_X11_377 dX11_readRule_145 is_141 rfl (fun v73 hv73 htv73 hbv73 => ?_)
            have hq73 : c = v73 := (show v73 = c by rw [hv73, eσ33, dk_up_n (show ¬ (141 = 162 ∧ 42 = i) by omega), hv32]).symm
            subst hq73
            clear htv73 hbv73
            refine pa_91 (pc' := 149) hE dX11_readRule_148 is_163 (by omega) trivial rfl (fun σ74 eσ74 => ?_)
            have gi75 : QX c r σ16 σ74 := QX_u gi34 (by omega) (by omega) eσ74
            refine dk_aload_n (pc' := 150) hE dX11_readRule_149 rfl rfl rfl ?_
            refine gf_11_40 (pc' := 153) (w := 169) hE fl_X11_98 dX11_readRule_150 is_141 rfl rfl ?_
            refine dk_iconst (pc' := 154) hE dX11_readRule_153 (by decide) rfl ?_
            refine dk_aload_n (pc' := 155) hE dX11_readRule_154 rfl rfl rfl ?_
            refine gf_11_41 (pc' := 158) hE fl_X11_374 dX11_readRule_155 is_141 rfl (fun v76 hv76 htv76 hbv76 => ?_)
            have hq76 : v6 = v76 := (show v76 = v6 by rw [hv76, eσ74, dk_up_n (show ¬ (141 = 163 ∧ 41 = i) by omega), hv70]).symm
            subst hq76
            clear htv76 hbv76
            obtain ⟨v77, hv77⟩ : ∃ z : Int, z = 3 * v6 := ⟨_, rfl⟩
            refine dk_imul (pc' := 159) hE dX11_readRule_158 hv77.symm (by omega) rfl ?_
            refine dk_iload_n (pc' := 160) hE dX11_readRule_159 rfl rfl rfl ?_
            obtain ⟨v78, hv78⟩ : ∃ z : Int, z = v77 + 0 := ⟨_, rfl⟩
            refine dk_iadd (pc' := 161) hE dX11_readRule_160 hv78.symm (by omega) rfl ?_
            have hrnv78 : i = v78 := by omega
            subst hrnv78
            refine dk_iconst (pc' := 162) hE dX11_readRule_161 (by decide) rfl ?_
            refine pa_97 (pc' := 163) hE dX11_readRule_162 is_169 (by omega) (by omega) trivial rfl (fun σ79 eσ79 => ?_)
            have gi80 : QX c r σ16 σ79 := QX_u gi75 (by omega) (by omega) eσ79
            refine dk_aload_n (pc' := 164) hE dX11_readRule_163 rfl rfl rfl ?_
            refine dk_aload_n (pc' := 165) hE dX11_readRule_164 rfl rfl rfl ?_
            refine dk_bipush (pc' := 167) hE dX11_readRule_165 (by decide) rfl ?_
            refine dk_cV (pc' := 170) (as := [(0, 59)]) hE lk_X11_298 (ct_X11_is l G hGd 59) dX11_readRule_167 rfl is_141 rfl (by decide) (Nat.le_of_ble_eq_true rfl) rfl rfl (fun r82 σ81 hr82 hor82 => ?_)
            obtain ⟨v83, rfl, hfσ81, hpr82⟩ := hr82
            have hsσ81 : σ79 = σ81 := (funext (fun k => funext (fun j => hfσ81 k j not_false))).symm
            subst hsσ81
            rcases hpr82 with ⟨rfl, hpr82⟩ | rfl
            · skip
              have hz84 : σ79 141 3 = σ 141 3 := by rw [eσ79, dk_up_n (show ¬ (141 = 169 ∧ 3 = i) by omega), eσ74, dk_up_n (show ¬ (141 = 163 ∧ 3 = i) by omega), eσ33, dk_up_n (show ¬ (141 = 162 ∧ 3 = i) by omega), hfσ25 141 3 (by omega), hfσ16 141 3 (by omega)]
              refine dk_cV (pc' := 173) (as := [(0, 1)]) hE lk_X11_301 (ct_X11_must l G hGd 1) dX11_readRule_170 rfl is_141 rfl (by decide) (Nat.le_of_ble_eq_true rfl) ⟨rfl, (NX_tk (gi80).1), (by omega)⟩ rfl (fun r86 σ85 hr86 hor86 => ?_)
              obtain ⟨rfl, hfσ85, hpr86⟩ := hr86
              have gi87 : QX c r σ16 σ85 := QX_tr gi80 hpr86 (fun k_ j_ h_ => hfσ85 k_ j_ (by omega))
              have hz88 : σ85 141 42 = c := by rw [hfσ85 141 42 (by omega), eσ79, dk_up_n (show ¬ (141 = 169 ∧ 42 = i) by omega), eσ74, dk_up_n (show ¬ (141 = 163 ∧ 42 = i) by omega), hv73]
              exact dk_vret (st := []) hE hR dX11_readRule_173 ⟨rfl, (fun k_ j_ h_ => by rw [hfσ85 k_ j_ (fun w_ => h_ (w_.elim (fun x0_ => Or.inl (x0_)) (fun y0_ => y0_.elim (fun x1_ => Or.inr (Or.inl (x1_))) (fun y1_ => y1_.elim (fun x2_ => Or.inr (Or.inr (Or.inl (x2_)))) (fun y2_ => y2_.elim (fun x3_ => Or.inr (Or.inr (Or.inr (Or.inl (x3_))))) (fun y3_ => y3_.elim (fun x4_ => Or.inr (Or.inr (Or.inr (Or.inr (Or.inl (x4_)))))) (fun y4_ => y4_.elim (fun x5_ => Or.inr (Or.inr (Or.inr (Or.inr (Or.inr (Or.inl (x5_))))))) (fun y5_ => Or.inr (Or.inr (Or.inr (Or.inr (Or.inr (Or.inr (Or.inl (y5_))))))))))))))), eσ79, dk_up_n (show ¬ (k_ = 169 ∧ j_ = i) from fun q_ => h_ (Or.inr (Or.inr (Or.inr (Or.inr (Or.inr (Or.inr (Or.inr (Or.inr (Or.inr (Or.inr (Or.inr (Or.inr (Or.inr (q_.1))))))))))))))), eσ74, dk_up_n (show ¬ (k_ = 163 ∧ j_ = i) from fun q_ => h_ (Or.inr (Or.inr (Or.inr (Or.inr (Or.inr (Or.inr (Or.inr (Or.inr (Or.inr (Or.inr (Or.inr (Or.inr (Or.inl (dk_wr (lo := 162) (hi := 163) q_.1 (by decide)))))))))))))))), eσ33, dk_up_n (show ¬ (k_ = 162 ∧ j_ = i) from fun q_ => h_ (Or.inr (Or.inr (Or.inr (Or.inr (Or.inr (Or.inr (Or.inr (Or.inr (Or.inr (Or.inr (Or.inr (Or.inr (Or.inl (dk_wr (lo := 162) (hi := 163) q_.1 (by decide)))))))))))))))), hfσ25 k_ j_ (fun w_ => h_ (w_.elim (fun x0_ => Or.inl (x0_)) (fun y0_ => y0_.elim (fun x1_ => Or.inr (Or.inl (x1_))) (fun y1_ => y1_.elim (fun x2_ => Or.inr (Or.inr (Or.inl (x2_)))) (fun y2_ => y2_.elim (fun x3_ => Or.inr (Or.inr (Or.inr (Or.inl (x3_))))) (fun y3_ => y3_.elim (fun x4_ => Or.inr (Or.inr (Or.inr (Or.inr (Or.inl (x4_)))))) (fun y4_ => y4_.elim (fun x5_ => Or.inr (Or.inr (Or.inr (Or.inr (Or.inr (Or.inl (x5_))))))) (fun y5_ => Or.inr (Or.inr (Or.inr (Or.inr (Or.inr (Or.inr (Or.inl (y5_))))))))))))))), hfσ16 k_ j_ (fun w_ => h_ (w_.elim (fun x0_ => Or.inr (Or.inr (Or.inl (x0_)))) (fun y0_ => y0_.elim (fun x1_ => Or.inr (Or.inr (Or.inr (Or.inl (x1_))))) (fun y1_ => y1_.elim (fun x2_ => Or.inr (Or.inr (Or.inr (Or.inr (Or.inl (x2_)))))) (fun y2_ => y2_.elim (fun x3_ => Or.inr (Or.inr (Or.inr (Or.inr (Or.inr (Or.inl (x3_))))))) (fun y3_ => Or.inr (Or.inr (Or.inr (Or.inr (Or.inr (Or.inr (Or.inl (y3_)))))))))))))]), ⟨NX_tr hB.1 (gi87).1, RS_line (n := 0) hRS hc.symm (QX_qx hB hB2 gi87) (by omega) (fun j_ h_ => ⟨by rw [hfσ85 162 j_ (by omega), eσ79, dk_up_n (show ¬ (162 = 169 ∧ j_ = i) by omega), eσ74, dk_up_n (show ¬ (162 = 163 ∧ j_ = i) by omega), eσ33, dk_up_n (show ¬ (162 = 162 ∧ j_ = i) by omega), hfσ25 162 j_ (by omega), hfσ16 162 j_ (by omega)], by rw [hfσ85 163 j_ (by omega), eσ79, dk_up_n (show ¬ (163 = 169 ∧ j_ = i) by omega), eσ74, dk_up_n (show ¬ (163 = 163 ∧ j_ = i) by omega), eσ33, dk_up_n (show ¬ (163 = 162 ∧ j_ = i) by omega), hfσ25 163 j_ (by omega), hfσ16 163 j_ (by omega)], by rw [hfσ85 169 j_ (by omega), eσ79, dk_up_n (show ¬ (169 = 169 ∧ j_ = i) by omega), eσ74, dk_up_n (show ¬ (169 = 163 ∧ j_ = i) by omega), eσ33, dk_up_n (show ¬ (169 = 162 ∧ j_ = i) by omega), hfσ25 169 j_ (by omega), hfσ16 169 j_ (by omega)]⟩) (fun _ => ⟨by rw [← hi, hfσ85 162 i (by omega), eσ79, dk_up_n (show ¬ (162 = 169 ∧ i = i) by omega), eσ74, dk_up_n (show ¬ (162 = 163 ∧ i = i) by omega), eσ33, dk_up_s], by rw [← hi, hfσ85 163 i (by omega), eσ79, dk_up_n (show ¬ (163 = 169 ∧ i = i) by omega), eσ74, dk_up_s]; omega⟩), fun a_ q_ => Or.inr (by have x_ := (gi87).1.2.2.1; have t_ := hT.2.2 q_; have y_ := H85.2.2.1; omega)⟩⟩
            · skip
              have hz89 : σ79 141 3 = σ 141 3 := by rw [eσ79, dk_up_n (show ¬ (141 = 169 ∧ 3 = i) by omega), eσ74, dk_up_n (show ¬ (141 = 163 ∧ 3 = i) by omega), eσ33, dk_up_n (show ¬ (141 = 162 ∧ 3 = i) by omega), hfσ25 141 3 (by omega), hfσ16 141 3 (by omega)]
              refine dk_cV (pc' := 173) (as := [(0, 0)]) hE lk_X11_301 (ct_X11_must l G hGd 0) dX11_readRule_170 rfl is_141 rfl (by decide) (Nat.le_of_ble_eq_true rfl) ⟨rfl, (NX_tk (gi80).1), (by omega)⟩ rfl (fun r91 σ90 hr91 hor91 => ?_)
              obtain ⟨rfl, hfσ90, hpr91⟩ := hr91
              have gi92 : QX c r σ16 σ90 := QX_tr gi80 hpr91 (fun k_ j_ h_ => hfσ90 k_ j_ (by omega))
              have hz93 : σ90 141 42 = c := by rw [hfσ90 141 42 (by omega), eσ79, dk_up_n (show ¬ (141 = 169 ∧ 42 = i) by omega), eσ74, dk_up_n (show ¬ (141 = 163 ∧ 42 = i) by omega), hv73]
              exact dk_vret (st := []) hE hR dX11_readRule_173 ⟨rfl, (fun k_ j_ h_ => by rw [hfσ90 k_ j_ (fun w_ => h_ (w_.elim (fun x0_ => Or.inl (x0_)) (fun y0_ => y0_.elim (fun x1_ => Or.inr (Or.inl (x1_))) (fun y1_ => y1_.elim (fun x2_ => Or.inr (Or.inr (Or.inl (x2_)))) (fun y2_ => y2_.elim (fun x3_ => Or.inr (Or.inr (Or.inr (Or.inl (x3_))))) (fun y3_ => y3_.elim (fun x4_ => Or.inr (Or.inr (Or.inr (Or.inr (Or.inl (x4_)))))) (fun y4_ => y4_.elim (fun x5_ => Or.inr (Or.inr (Or.inr (Or.inr (Or.inr (Or.inl (x5_))))))) (fun y5_ => Or.inr (Or.inr (Or.inr (Or.inr (Or.inr (Or.inr (Or.inl (y5_))))))))))))))), eσ79, dk_up_n (show ¬ (k_ = 169 ∧ j_ = i) from fun q_ => h_ (Or.inr (Or.inr (Or.inr (Or.inr (Or.inr (Or.inr (Or.inr (Or.inr (Or.inr (Or.inr (Or.inr (Or.inr (Or.inr (q_.1))))))))))))))), eσ74, dk_up_n (show ¬ (k_ = 163 ∧ j_ = i) from fun q_ => h_ (Or.inr (Or.inr (Or.inr (Or.inr (Or.inr (Or.inr (Or.inr (Or.inr (Or.inr (Or.inr (Or.inr (Or.inr (Or.inl (dk_wr (lo := 162) (hi := 163) q_.1 (by decide)))))))))))))))), eσ33, dk_up_n (show ¬ (k_ = 162 ∧ j_ = i) from fun q_ => h_ (Or.inr (Or.inr (Or.inr (Or.inr (Or.inr (Or.inr (Or.inr (Or.inr (Or.inr (Or.inr (Or.inr (Or.inr (Or.inl (dk_wr (lo := 162) (hi := 163) q_.1 (by decide)))))))))))))))), hfσ25 k_ j_ (fun w_ => h_ (w_.elim (fun x0_ => Or.inl (x0_)) (fun y0_ => y0_.elim (fun x1_ => Or.inr (Or.inl (x1_))) (fun y1_ => y1_.elim (fun x2_ => Or.inr (Or.inr (Or.inl (x2_)))) (fun y2_ => y2_.elim (fun x3_ => Or.inr (Or.inr (Or.inr (Or.inl (x3_))))) (fun y3_ => y3_.elim (fun x4_ => Or.inr (Or.inr (Or.inr (Or.inr (Or.inl (x4_)))))) (fun y4_ => y4_.elim (fun x5_ => Or.inr (Or.inr (Or.inr (Or.inr (Or.inr (Or.inl (x5_))))))) (fun y5_ => Or.inr (Or.inr (Or.inr (Or.inr (Or.inr (Or.inr (Or.inl (y5_))))))))))))))), hfσ16 k_ j_ (fun w_ => h_ (w_.elim (fun x0_ => Or.inr (Or.inr (Or.inl (x0_)))) (fun y0_ => y0_.elim (fun x1_ => Or.inr (Or.inr (Or.inr (Or.inl (x1_))))) (fun y1_ => y1_.elim (fun x2_ => Or.inr (Or.inr (Or.inr (Or.inr (Or.inl (x2_)))))) (fun y2_ => y2_.elim (fun x3_ => Or.inr (Or.inr (Or.inr (Or.inr (Or.inr (Or.inl (x3_))))))) (fun y3_ => Or.inr (Or.inr (Or.inr (Or.inr (Or.inr (Or.inr (Or.inl (y3_)))))))))))))]), ⟨NX_tr hB.1 (gi92).1, RS_line (n := 0) hRS hc.symm (QX_qx hB hB2 gi92) (by omega) (fun j_ h_ => ⟨by rw [hfσ90 162 j_ (by omega), eσ79, dk_up_n (show ¬ (162 = 169 ∧ j_ = i) by omega), eσ74, dk_up_n (show ¬ (162 = 163 ∧ j_ = i) by omega), eσ33, dk_up_n (show ¬ (162 = 162 ∧ j_ = i) by omega), hfσ25 162 j_ (by omega), hfσ16 162 j_ (by omega)], by rw [hfσ90 163 j_ (by omega), eσ79, dk_up_n (show ¬ (163 = 169 ∧ j_ = i) by omega), eσ74, dk_up_n (show ¬ (163 = 163 ∧ j_ = i) by omega), eσ33, dk_up_n (show ¬ (163 = 162 ∧ j_ = i) by omega), hfσ25 163 j_ (by omega), hfσ16 163 j_ (by omega)], by rw [hfσ90 169 j_ (by omega), eσ79, dk_up_n (show ¬ (169 = 169 ∧ j_ = i) by omega), eσ74, dk_up_n (show ¬ (169 = 163 ∧ j_ = i) by omega), eσ33, dk_up_n (show ¬ (169 = 162 ∧ j_ = i) by omega), hfσ25 169 j_ (by omega), hfσ16 169 j_ (by omega)]⟩) (fun _ => ⟨by rw [← hi, hfσ90 162 i (by omega), eσ79, dk_up_n (show ¬ (162 = 169 ∧ i = i) by omega), eσ74, dk_up_n (show ¬ (162 = 163 ∧ i = i) by omega), eσ33, dk_up_s], by rw [← hi, hfσ90 163 i (by omega), eσ79, dk_up_n (show ¬ (163 = 169 ∧ i = i) by omega), eσ74, dk_up_s]; omega⟩), fun a_ q_ => Or.inr (by have x_ := (gi92).1.2.2.1; have t_ := hT.2.2 q_; have y_ := H85.2.2.1; omega)⟩⟩
        · skip
          have hz94 : σ16 141 3 = σ 141 3 := by rw [hfσ16 141 3 (by omega)]
          refine dk_cV (pc' := 104) (as := [(0, 0)]) hE lk_X11_301 (ct_X11_must l G hGd 0) dX11_readRule_101 rfl is_141 rfl (by decide) (Nat.le_of_ble_eq_true rfl) ⟨rfl, (NX_tk (gi19).1), (by omega)⟩ rfl (fun r96 σ95 hr96 hor96 => ?_)
          obtain ⟨rfl, hfσ95, hpr96⟩ := hr96
          have gi97 : QX c r σ16 σ95 := QX_tr gi19 hpr96 (fun k_ j_ h_ => hfσ95 k_ j_ (by omega))
          obtain ⟨i, hi⟩ : ∃ i : Int, i = 3 * r + 0 := ⟨_, rfl⟩
          have gi98 : QX c r σ16 σ95 := gi97
          refine dk_aload_n (pc' := 105) hE dX11_readRule_104 rfl rfl rfl ?_
          refine gf_11_33 (pc' := 108) (w := 162) hE fl_X11_77 dX11_readRule_105 is_141 rfl rfl ?_
          refine dk_iconst (pc' := 109) hE dX11_readRule_108 (by decide) rfl ?_
          refine dk_aload_n (pc' := 110) hE dX11_readRule_109 rfl rfl rfl ?_
          refine gf_11_41 (pc' := 113) hE fl_X11_374 dX11_readRule_110 is_141 rfl (fun v99 hv99 htv99 hbv99 => ?_)
          have hq99 : v6 = v99 := (show v99 = v6 by rw [hv99, hfσ95 141 41 (by omega), hfσ16 141 41 (by omega), hv6]).symm
          subst hq99
          clear htv99 hbv99
          obtain ⟨v100, hv100⟩ : ∃ z : Int, z = 3 * v6 := ⟨_, rfl⟩
          refine dk_imul (pc' := 114) hE dX11_readRule_113 hv100.symm (by omega) rfl ?_
          refine dk_iload_n (pc' := 115) hE dX11_readRule_114 rfl rfl rfl ?_
          obtain ⟨v101, hv101⟩ : ∃ z : Int, z = v100 + 0 := ⟨_, rfl⟩
          refine dk_iadd (pc' := 116) hE dX11_readRule_115 hv101.symm (by omega) rfl ?_
          have hrnv101 : i = v101 := by omega
          subst hrnv101
          refine dk_aload_n (pc' := 117) hE dX11_readRule_116 rfl rfl rfl ?_
          refine gf_11_42 (pc' := 120) hE fl_X11_377 dX11_readRule_117 is_141 rfl (fun v102 hv102 htv102 hbv102 => ?_)
          have hq102 : c = v102 := (show v102 = c by rw [hv102, hfσ95 141 42 (by omega), hfσ16 141 42 (by omega), hc]).symm
          subst hq102
          clear htv102 hbv102
          refine pa_90 (pc' := 121) hE dX11_readRule_120 is_162 (by omega) trivial rfl (fun σ103 eσ103 => ?_)
          have gi104 : QX c r σ16 σ103 := QX_u gi98 (by omega) (by omega) eσ103
          refine dk_aload_n (pc' := 122) hE dX11_readRule_121 rfl rfl rfl ?_
          refine dk_cV (pc' := 125) (as := []) hE lk_X11_250 (ct_X11_isGood l G hGd) dX11_readRule_122 rfl is_141 rfl (by decide) (Nat.le_of_ble_eq_true rfl) rfl rfl (fun r106 σ105 hr106 hor106 => ?_)
          obtain ⟨v107, rfl, hfσ105, hpr106⟩ := hr106
          have hsσ105 : σ103 = σ105 := (funext (fun k => funext (fun j => hfσ105 k j not_false))).symm
          subst hsσ105
          rcases hpr106 with ⟨rfl, hpr106⟩ | ⟨rfl, hpr106⟩
          · skip
            refine dk_if_eq (tgt := 132) (pc' := 128) hE dX11_readRule_125 (by decide) rfl (fun hc108 => absurd hc108 (by decide)) (fun hc108 => ?_)
            refine dk_aload_n (pc' := 129) hE dX11_readRule_128 rfl rfl rfl ?_
            have hz109 : σ103 141 3 = σ 141 3 := by rw [eσ103, dk_up_n (show ¬ (141 = 162 ∧ 3 = i) by omega), hfσ95 141 3 (by omega), hfσ16 141 3 (by omega)]
            have hz110 : σ103 141 42 = c := by rw [eσ103, dk_up_n (show ¬ (141 = 162 ∧ 42 = i) by omega), hv102]
            refine dk_cV (pc' := 132) (as := []) hE lk_X11_386 (ct_X11_e l G hGd c r) dX11_readRule_129 rfl is_141 rfl (by decide) (Nat.le_of_ble_eq_true rfl) ⟨rfl, (NX_tk (gi104).1), (by omega), ((gi104).2.1), (by omega), (by omega)⟩ rfl (fun r112 σ111 hr112 hor112 => ?_)
            obtain ⟨rfl, hfσ111, hpr112⟩ := hr112
            have hz113 : σ103 141 42 = c := by rw [eσ103, dk_up_n (show ¬ (141 = 162 ∧ 42 = i) by omega), hv102]
            have gi114 : QX c r σ16 σ111 := QX_qx gi104 (by omega) hpr112
            refine dk_aload_n (pc' := 133) hE dX11_readRule_132 rfl rfl rfl ?_
            refine gf_11_34 (pc' := 136) (w := 163) hE fl_X11_80 dX11_readRule_133 is_141 rfl rfl ?_
            refine dk_iconst (pc' := 137) hE dX11_readRule_136 (by decide) rfl ?_
            refine dk_aload_n (pc' := 138) hE dX11_readRule_137 rfl rfl rfl ?_
            refine gf_11_41 (pc' := 141) hE fl_X11_374 dX11_readRule_138 is_141 rfl (fun v115 hv115 htv115 hbv115 => ?_)
            have hq115 : v6 = v115 := (show v115 = v6 by rw [hv115, hfσ111 141 41 (by omega), eσ103, dk_up_n (show ¬ (141 = 162 ∧ 41 = i) by omega), hv99]).symm
            subst hq115
            clear htv115 hbv115
            obtain ⟨v116, hv116⟩ : ∃ z : Int, z = 3 * v6 := ⟨_, rfl⟩
            refine dk_imul (pc' := 142) hE dX11_readRule_141 hv116.symm (by omega) rfl ?_
            refine dk_iload_n (pc' := 143) hE dX11_readRule_142 rfl rfl rfl ?_
            obtain ⟨v117, hv117⟩ : ∃ z : Int, z = v116 + 0 := ⟨_, rfl⟩
            refine dk_iadd (pc' := 144) hE dX11_readRule_143 hv117.symm (by omega) rfl ?_
            have hrnv117 : i = v117 := by omega
            subst hrnv117
            refine dk_aload_n (pc' := 145) hE dX11_readRule_144 rfl rfl rfl ?_
            refine gf_11_42 (pc' := 148) hE fl_X11_377 dX11_readRule_145 is_141 rfl (fun v118 hv118 htv118 hbv118 => ?_)
            refine pa_91 (pc' := 149) hE dX11_readRule_148 is_163 (by omega) trivial rfl (fun σ119 eσ119 => ?_)
            have gi120 : QX c r σ16 σ119 := QX_u gi114 (by omega) (by omega) eσ119
            refine dk_aload_n (pc' := 150) hE dX11_readRule_149 rfl rfl rfl ?_
            refine gf_11_40 (pc' := 153) (w := 169) hE fl_X11_98 dX11_readRule_150 is_141 rfl rfl ?_
            refine dk_iconst (pc' := 154) hE dX11_readRule_153 (by decide) rfl ?_
            refine dk_aload_n (pc' := 155) hE dX11_readRule_154 rfl rfl rfl ?_
            refine gf_11_41 (pc' := 158) hE fl_X11_374 dX11_readRule_155 is_141 rfl (fun v121 hv121 htv121 hbv121 => ?_)
            have hq121 : v6 = v121 := (show v121 = v6 by rw [hv121, eσ119, dk_up_n (show ¬ (141 = 163 ∧ 41 = i) by omega), hv115]).symm
            subst hq121
            clear htv121 hbv121
            obtain ⟨v122, hv122⟩ : ∃ z : Int, z = 3 * v6 := ⟨_, rfl⟩
            refine dk_imul (pc' := 159) hE dX11_readRule_158 hv122.symm (by omega) rfl ?_
            refine dk_iload_n (pc' := 160) hE dX11_readRule_159 rfl rfl rfl ?_
            obtain ⟨v123, hv123⟩ : ∃ z : Int, z = v122 + 0 := ⟨_, rfl⟩
            refine dk_iadd (pc' := 161) hE dX11_readRule_160 hv123.symm (by omega) rfl ?_
            have hrnv123 : i = v123 := by omega
            subst hrnv123
            refine dk_iconst (pc' := 162) hE dX11_readRule_161 (by decide) rfl ?_
            refine pa_97 (pc' := 163) hE dX11_readRule_162 is_169 (by omega) (by omega) trivial rfl (fun σ124 eσ124 => ?_)
            have gi125 : QX c r σ16 σ124 := QX_u gi120 (by omega) (by omega) eσ124
            refine dk_aload_n (pc' := 164) hE dX11_readRule_163 rfl rfl rfl ?_
            refine dk_aload_n (pc' := 165) hE dX11_readRule_164 rfl rfl rfl ?_
            refine dk_bipush (pc' := 167) hE dX11_readRule_165 (by decide) rfl ?_
            refine dk_cV (pc' := 170) (as := [(0, 59)]) hE lk_X11_298 (ct_X11_is l G hGd 59) dX11_readRule_167 rfl is_141 rfl (by decide) (Nat.le_of_ble_eq_true rfl) rfl rfl (fun r127 σ126 hr127 hor127 => ?_)
            obtain ⟨v128, rfl, hfσ126, hpr127⟩ := hr127
            have hsσ126 : σ124 = σ126 := (funext (fun k => funext (fun j => hfσ126 k j not_false))).symm
            subst hsσ126
            rcases hpr127 with ⟨rfl, hpr127⟩ | rfl
            · skip
              have hz129 : σ124 141 3 = σ 141 3 := by rw [eσ124, dk_up_n (show ¬ (141 = 169 ∧ 3 = i) by omega), eσ119, dk_up_n (show ¬ (141 = 163 ∧ 3 = i) by omega), hfσ111 141 3 (by omega), eσ103, dk_up_n (show ¬ (141 = 162 ∧ 3 = i) by omega), hfσ95 141 3 (by omega), hfσ16 141 3 (by omega)]
              refine dk_cV (pc' := 173) (as := [(0, 1)]) hE lk_X11_301 (ct_X11_must l G hGd 1) dX11_readRule_170 rfl is_141 rfl (by decide) (Nat.le_of_ble_eq_true rfl) ⟨rfl, (NX_tk (gi125).1), (by omega)⟩ rfl (fun r131 σ130 hr131 hor131 => ?_)
              obtain ⟨rfl, hfσ130, hpr131⟩ := hr131
              have gi132 : QX c r σ16 σ130 := QX_tr gi125 hpr131 (fun k_ j_ h_ => hfσ130 k_ j_ (by omega))
              have hz133 : σ130 141 42 = v118 := by rw [hfσ130 141 42 (by omega), eσ124, dk_up_n (show ¬ (141 = 169 ∧ 42 = i) by omega), eσ119, dk_up_n (show ¬ (141 = 163 ∧ 42 = i) by omega), hv118]
              exact dk_vret (st := []) hE hR dX11_readRule_173 ⟨rfl, (fun k_ j_ h_ => by rw [hfσ130 k_ j_ (fun w_ => h_ (w_.elim (fun x0_ => Or.inl (x0_)) (fun y0_ => y0_.elim (fun x1_ => Or.inr (Or.inl (x1_))) (fun y1_ => y1_.elim (fun x2_ => Or.inr (Or.inr (Or.inl (x2_)))) (fun y2_ => y2_.elim (fun x3_ => Or.inr (Or.inr (Or.inr (Or.inl (x3_))))) (fun y3_ => y3_.elim (fun x4_ => Or.inr (Or.inr (Or.inr (Or.inr (Or.inl (x4_)))))) (fun y4_ => y4_.elim (fun x5_ => Or.inr (Or.inr (Or.inr (Or.inr (Or.inr (Or.inl (x5_))))))) (fun y5_ => Or.inr (Or.inr (Or.inr (Or.inr (Or.inr (Or.inr (Or.inl (y5_))))))))))))))), eσ124, dk_up_n (show ¬ (k_ = 169 ∧ j_ = i) from fun q_ => h_ (Or.inr (Or.inr (Or.inr (Or.inr (Or.inr (Or.inr (Or.inr (Or.inr (Or.inr (Or.inr (Or.inr (Or.inr (Or.inr (q_.1))))))))))))))), eσ119, dk_up_n (show ¬ (k_ = 163 ∧ j_ = i) from fun q_ => h_ (Or.inr (Or.inr (Or.inr (Or.inr (Or.inr (Or.inr (Or.inr (Or.inr (Or.inr (Or.inr (Or.inr (Or.inr (Or.inl (dk_wr (lo := 162) (hi := 163) q_.1 (by decide)))))))))))))))), hfσ111 k_ j_ (fun w_ => h_ (w_.elim (fun x0_ => Or.inl (x0_)) (fun y0_ => y0_.elim (fun x1_ => Or.inr (Or.inl (x1_))) (fun y1_ => y1_.elim (fun x2_ => Or.inr (Or.inr (Or.inl (x2_)))) (fun y2_ => y2_.elim (fun x3_ => Or.inr (Or.inr (Or.inr (Or.inl (x3_))))) (fun y3_ => y3_.elim (fun x4_ => Or.inr (Or.inr (Or.inr (Or.inr (Or.inl (x4_)))))) (fun y4_ => y4_.elim (fun x5_ => Or.inr (Or.inr (Or.inr (Or.inr (Or.inr (Or.inl (x5_))))))) (fun y5_ => y5_.elim (fun x6_ => Or.inr (Or.inr (Or.inr (Or.inr (Or.inr (Or.inr (Or.inl (x6_)))))))) (fun y6_ => y6_.elim (fun x7_ => Or.inr (Or.inr (Or.inr (Or.inr (Or.inr (Or.inr (Or.inr (Or.inl (x7_))))))))) (fun y7_ => y7_.elim (fun x8_ => Or.inr (Or.inr (Or.inr (Or.inr (Or.inr (Or.inr (Or.inr (Or.inr (Or.inl (x8_)))))))))) (fun y8_ => y8_.elim (fun x9_ => Or.inr (Or.inr (Or.inr (Or.inr (Or.inr (Or.inr (Or.inr (Or.inr (Or.inr (Or.inl (x9_))))))))))) (fun y9_ => y9_.elim (fun x10_ => Or.inr (Or.inr (Or.inr (Or.inr (Or.inr (Or.inr (Or.inr (Or.inr (Or.inr (Or.inr (Or.inl (x10_)))))))))))) (fun y10_ => Or.inr (Or.inr (Or.inr (Or.inr (Or.inr (Or.inr (Or.inr (Or.inr (Or.inr (Or.inr (Or.inr (Or.inl (y10_))))))))))))))))))))))))), eσ103, dk_up_n (show ¬ (k_ = 162 ∧ j_ = i) from fun q_ => h_ (Or.inr (Or.inr (Or.inr (Or.inr (Or.inr (Or.inr (Or.inr (Or.inr (Or.inr (Or.inr (Or.inr (Or.inr (Or.inl (dk_wr (lo := 162) (hi := 163) q_.1 (by decide)))))))))))))))), hfσ95 k_ j_ (fun w_ => h_ (w_.elim (fun x0_ => Or.inl (x0_)) (fun y0_ => y0_.elim (fun x1_ => Or.inr (Or.inl (x1_))) (fun y1_ => y1_.elim (fun x2_ => Or.inr (Or.inr (Or.inl (x2_)))) (fun y2_ => y2_.elim (fun x3_ => Or.inr (Or.inr (Or.inr (Or.inl (x3_))))) (fun y3_ => y3_.elim (fun x4_ => Or.inr (Or.inr (Or.inr (Or.inr (Or.inl (x4_)))))) (fun y4_ => y4_.elim (fun x5_ => Or.inr (Or.inr (Or.inr (Or.inr (Or.inr (Or.inl (x5_))))))) (fun y5_ => Or.inr (Or.inr (Or.inr (Or.inr (Or.inr (Or.inr (Or.inl (y5_))))))))))))))), hfσ16 k_ j_ (fun w_ => h_ (w_.elim (fun x0_ => Or.inr (Or.inr (Or.inl (x0_)))) (fun y0_ => y0_.elim (fun x1_ => Or.inr (Or.inr (Or.inr (Or.inl (x1_))))) (fun y1_ => y1_.elim (fun x2_ => Or.inr (Or.inr (Or.inr (Or.inr (Or.inl (x2_)))))) (fun y2_ => y2_.elim (fun x3_ => Or.inr (Or.inr (Or.inr (Or.inr (Or.inr (Or.inl (x3_))))))) (fun y3_ => Or.inr (Or.inr (Or.inr (Or.inr (Or.inr (Or.inr (Or.inl (y3_)))))))))))))]), ⟨NX_tr hB.1 (gi132).1, RS_line (n := 0) hRS hc.symm (QX_qx hB hB2 gi132) (by omega) (fun j_ h_ => ⟨by rw [hfσ130 162 j_ (by omega), eσ124, dk_up_n (show ¬ (162 = 169 ∧ j_ = i) by omega), eσ119, dk_up_n (show ¬ (162 = 163 ∧ j_ = i) by omega), hfσ111 162 j_ (by omega), eσ103, dk_up_n (show ¬ (162 = 162 ∧ j_ = i) by omega), hfσ95 162 j_ (by omega), hfσ16 162 j_ (by omega)], by rw [hfσ130 163 j_ (by omega), eσ124, dk_up_n (show ¬ (163 = 169 ∧ j_ = i) by omega), eσ119, dk_up_n (show ¬ (163 = 163 ∧ j_ = i) by omega), hfσ111 163 j_ (by omega), eσ103, dk_up_n (show ¬ (163 = 162 ∧ j_ = i) by omega), hfσ95 163 j_ (by omega), hfσ16 163 j_ (by omega)], by rw [hfσ130 169 j_ (by omega), eσ124, dk_up_n (show ¬ (169 = 169 ∧ j_ = i) by omega), eσ119, dk_up_n (show ¬ (169 = 163 ∧ j_ = i) by omega), hfσ111 169 j_ (by omega), eσ103, dk_up_n (show ¬ (169 = 162 ∧ j_ = i) by omega), hfσ95 169 j_ (by omega), hfσ16 169 j_ (by omega)]⟩) (fun _ => ⟨by rw [← hi, hfσ130 162 i (by omega), eσ124, dk_up_n (show ¬ (162 = 169 ∧ i = i) by omega), eσ119, dk_up_n (show ¬ (162 = 163 ∧ i = i) by omega), hfσ111 162 i (by omega), eσ103, dk_up_s], by rw [← hi, hfσ130 163 i (by omega), eσ124, dk_up_n (show ¬ (163 = 169 ∧ i = i) by omega), eσ119, dk_up_s]; omega⟩), fun a_ q_ => Or.inr (by have x_ := (gi132).1.2.2.1; have t_ := hT.2.2 q_; have y_ := H85.2.2.1; omega)⟩⟩
            · skip
              have hz134 : σ124 141 3 = σ 141 3 := by rw [eσ124, dk_up_n (show ¬ (141 = 169 ∧ 3 = i) by omega), eσ119, dk_up_n (show ¬ (141 = 163 ∧ 3 = i) by omega), hfσ111 141 3 (by omega), eσ103, dk_up_n (show ¬ (141 = 162 ∧ 3 = i) by omega), hfσ95 141 3 (by omega), hfσ16 141 3 (by omega)]
              refine dk_cV (pc' := 173) (as := [(0, 0)]) hE lk_X11_301 (ct_X11_must l G hGd 0) dX11_readRule_170 rfl is_141 rfl (by decide) (Nat.le_of_ble_eq_true rfl) ⟨rfl, (NX_tk (gi125).1), (by omega)⟩ rfl (fun r136 σ135 hr136 hor136 => ?_)
              obtain ⟨rfl, hfσ135, hpr136⟩ := hr136
              have gi137 : QX c r σ16 σ135 := QX_tr gi125 hpr136 (fun k_ j_ h_ => hfσ135 k_ j_ (by omega))
              have hz138 : σ135 141 42 = v118 := by rw [hfσ135 141 42 (by omega), eσ124, dk_up_n (show ¬ (141 = 169 ∧ 42 = i) by omega), eσ119, dk_up_n (show ¬ (141 = 163 ∧ 42 = i) by omega), hv118]
              exact dk_vret (st := []) hE hR dX11_readRule_173 ⟨rfl, (fun k_ j_ h_ => by rw [hfσ135 k_ j_ (fun w_ => h_ (w_.elim (fun x0_ => Or.inl (x0_)) (fun y0_ => y0_.elim (fun x1_ => Or.inr (Or.inl (x1_))) (fun y1_ => y1_.elim (fun x2_ => Or.inr (Or.inr (Or.inl (x2_)))) (fun y2_ => y2_.elim (fun x3_ => Or.inr (Or.inr (Or.inr (Or.inl (x3_))))) (fun y3_ => y3_.elim (fun x4_ => Or.inr (Or.inr (Or.inr (Or.inr (Or.inl (x4_)))))) (fun y4_ => y4_.elim (fun x5_ => Or.inr (Or.inr (Or.inr (Or.inr (Or.inr (Or.inl (x5_))))))) (fun y5_ => Or.inr (Or.inr (Or.inr (Or.inr (Or.inr (Or.inr (Or.inl (y5_))))))))))))))), eσ124, dk_up_n (show ¬ (k_ = 169 ∧ j_ = i) from fun q_ => h_ (Or.inr (Or.inr (Or.inr (Or.inr (Or.inr (Or.inr (Or.inr (Or.inr (Or.inr (Or.inr (Or.inr (Or.inr (Or.inr (q_.1))))))))))))))), eσ119, dk_up_n (show ¬ (k_ = 163 ∧ j_ = i) from fun q_ => h_ (Or.inr (Or.inr (Or.inr (Or.inr (Or.inr (Or.inr (Or.inr (Or.inr (Or.inr (Or.inr (Or.inr (Or.inr (Or.inl (dk_wr (lo := 162) (hi := 163) q_.1 (by decide)))))))))))))))), hfσ111 k_ j_ (fun w_ => h_ (w_.elim (fun x0_ => Or.inl (x0_)) (fun y0_ => y0_.elim (fun x1_ => Or.inr (Or.inl (x1_))) (fun y1_ => y1_.elim (fun x2_ => Or.inr (Or.inr (Or.inl (x2_)))) (fun y2_ => y2_.elim (fun x3_ => Or.inr (Or.inr (Or.inr (Or.inl (x3_))))) (fun y3_ => y3_.elim (fun x4_ => Or.inr (Or.inr (Or.inr (Or.inr (Or.inl (x4_)))))) (fun y4_ => y4_.elim (fun x5_ => Or.inr (Or.inr (Or.inr (Or.inr (Or.inr (Or.inl (x5_))))))) (fun y5_ => y5_.elim (fun x6_ => Or.inr (Or.inr (Or.inr (Or.inr (Or.inr (Or.inr (Or.inl (x6_)))))))) (fun y6_ => y6_.elim (fun x7_ => Or.inr (Or.inr (Or.inr (Or.inr (Or.inr (Or.inr (Or.inr (Or.inl (x7_))))))))) (fun y7_ => y7_.elim (fun x8_ => Or.inr (Or.inr (Or.inr (Or.inr (Or.inr (Or.inr (Or.inr (Or.inr (Or.inl (x8_)))))))))) (fun y8_ => y8_.elim (fun x9_ => Or.inr (Or.inr (Or.inr (Or.inr (Or.inr (Or.inr (Or.inr (Or.inr (Or.inr (Or.inl (x9_))))))))))) (fun y9_ => y9_.elim (fun x10_ => Or.inr (Or.inr (Or.inr (Or.inr (Or.inr (Or.inr (Or.inr (Or.inr (Or.inr (Or.inr (Or.inl (x10_)))))))))))) (fun y10_ => Or.inr (Or.inr (Or.inr (Or.inr (Or.inr (Or.inr (Or.inr (Or.inr (Or.inr (Or.inr (Or.inr (Or.inl (y10_))))))))))))))))))))))))), eσ103, dk_up_n (show ¬ (k_ = 162 ∧ j_ = i) from fun q_ => h_ (Or.inr (Or.inr (Or.inr (Or.inr (Or.inr (Or.inr (Or.inr (Or.inr (Or.inr (Or.inr (Or.inr (Or.inr (Or.inl (dk_wr (lo := 162) (hi := 163) q_.1 (by decide)))))))))))))))), hfσ95 k_ j_ (fun w_ => h_ (w_.elim (fun x0_ => Or.inl (x0_)) (fun y0_ => y0_.elim (fun x1_ => Or.inr (Or.inl (x1_))) (fun y1_ => y1_.elim (fun x2_ => Or.inr (Or.inr (Or.inl (x2_)))) (fun y2_ => y2_.elim (fun x3_ => Or.inr (Or.inr (Or.inr (Or.inl (x3_))))) (fun y3_ => y3_.elim (fun x4_ => Or.inr (Or.inr (Or.inr (Or.inr (Or.inl (x4_)))))) (fun y4_ => y4_.elim (fun x5_ => Or.inr (Or.inr (Or.inr (Or.inr (Or.inr (Or.inl (x5_))))))) (fun y5_ => Or.inr (Or.inr (Or.inr (Or.inr (Or.inr (Or.inr (Or.inl (y5_))))))))))))))), hfσ16 k_ j_ (fun w_ => h_ (w_.elim (fun x0_ => Or.inr (Or.inr (Or.inl (x0_)))) (fun y0_ => y0_.elim (fun x1_ => Or.inr (Or.inr (Or.inr (Or.inl (x1_))))) (fun y1_ => y1_.elim (fun x2_ => Or.inr (Or.inr (Or.inr (Or.inr (Or.inl (x2_)))))) (fun y2_ => y2_.elim (fun x3_ => Or.inr (Or.inr (Or.inr (Or.inr (Or.inr (Or.inl (x3_))))))) (fun y3_ => Or.inr (Or.inr (Or.inr (Or.inr (Or.inr (Or.inr (Or.inl (y3_)))))))))))))]), ⟨NX_tr hB.1 (gi137).1, RS_line (n := 0) hRS hc.symm (QX_qx hB hB2 gi137) (by omega) (fun j_ h_ => ⟨by rw [hfσ135 162 j_ (by omega), eσ124, dk_up_n (show ¬ (162 = 169 ∧ j_ = i) by omega), eσ119, dk_up_n (show ¬ (162 = 163 ∧ j_ = i) by omega), hfσ111 162 j_ (by omega), eσ103, dk_up_n (show ¬ (162 = 162 ∧ j_ = i) by omega), hfσ95 162 j_ (by omega), hfσ16 162 j_ (by omega)], by rw [hfσ135 163 j_ (by omega), eσ124, dk_up_n (show ¬ (163 = 169 ∧ j_ = i) by omega), eσ119, dk_up_n (show ¬ (163 = 163 ∧ j_ = i) by omega), hfσ111 163 j_ (by omega), eσ103, dk_up_n (show ¬ (163 = 162 ∧ j_ = i) by omega), hfσ95 163 j_ (by omega), hfσ16 163 j_ (by omega)], by rw [hfσ135 169 j_ (by omega), eσ124, dk_up_n (show ¬ (169 = 169 ∧ j_ = i) by omega), eσ119, dk_up_n (show ¬ (169 = 163 ∧ j_ = i) by omega), hfσ111 169 j_ (by omega), eσ103, dk_up_n (show ¬ (169 = 162 ∧ j_ = i) by omega), hfσ95 169 j_ (by omega), hfσ16 169 j_ (by omega)]⟩) (fun _ => ⟨by rw [← hi, hfσ135 162 i (by omega), eσ124, dk_up_n (show ¬ (162 = 169 ∧ i = i) by omega), eσ119, dk_up_n (show ¬ (162 = 163 ∧ i = i) by omega), hfσ111 162 i (by omega), eσ103, dk_up_s], by rw [← hi, hfσ135 163 i (by omega), eσ124, dk_up_n (show ¬ (163 = 169 ∧ i = i) by omega), eσ119, dk_up_s]; omega⟩), fun a_ q_ => Or.inr (by have x_ := (gi137).1.2.2.1; have t_ := hT.2.2 q_; have y_ := H85.2.2.1; omega)⟩⟩
          · skip
            refine dk_if_eq (tgt := 132) (pc' := 128) hE dX11_readRule_125 (by decide) rfl (fun hc139 => ?_) (fun hc139 => absurd hc139 (by decide))
            refine dk_aload_n (pc' := 133) hE dX11_readRule_132 rfl rfl rfl ?_
            refine gf_11_34 (pc' := 136) (w := 163) hE fl_X11_80 dX11_readRule_133 is_141 rfl rfl ?_
            refine dk_iconst (pc' := 137) hE dX11_readRule_136 (by decide) rfl ?_
            refine dk_aload_n (pc' := 138) hE dX11_readRule_137 rfl rfl rfl ?_
            refine gf_11_41 (pc' := 141) hE fl_X11_374 dX11_readRule_138 is_141 rfl (fun v140 hv140 htv140 hbv140 => ?_)
            have hq140 : v6 = v140 := (show v140 = v6 by rw [hv140, eσ103, dk_up_n (show ¬ (141 = 162 ∧ 41 = i) by omega), hv99]).symm
            subst hq140
            clear htv140 hbv140
            obtain ⟨v141, hv141⟩ : ∃ z : Int, z = 3 * v6 := ⟨_, rfl⟩
            refine dk_imul (pc' := 142) hE dX11_readRule_141 hv141.symm (by omega) rfl ?_
            refine dk_iload_n (pc' := 143) hE dX11_readRule_142 rfl rfl rfl ?_
            obtain ⟨v142, hv142⟩ : ∃ z : Int, z = v141 + 0 := ⟨_, rfl⟩
            refine dk_iadd (pc' := 144) hE dX11_readRule_143 hv142.symm (by omega) rfl ?_
            have hrnv142 : i = v142 := by omega
            subst hrnv142
            refine dk_aload_n (pc' := 145) hE dX11_readRule_144 rfl rfl rfl ?_
            refine gf_11_42 (pc' := 148) hE fl_X11_377 dX11_readRule_145 is_141 rfl (fun v143 hv143 htv143 hbv143 => ?_)
            have hq143 : c = v143 := (show v143 = c by rw [hv143, eσ103, dk_up_n (show ¬ (141 = 162 ∧ 42 = i) by omega), hv102]).symm
            subst hq143
            clear htv143 hbv143
            refine pa_91 (pc' := 149) hE dX11_readRule_148 is_163 (by omega) trivial rfl (fun σ144 eσ144 => ?_)
            have gi145 : QX c r σ16 σ144 := QX_u gi104 (by omega) (by omega) eσ144
            refine dk_aload_n (pc' := 150) hE dX11_readRule_149 rfl rfl rfl ?_
            refine gf_11_40 (pc' := 153) (w := 169) hE fl_X11_98 dX11_readRule_150 is_141 rfl rfl ?_
            refine dk_iconst (pc' := 154) hE dX11_readRule_153 (by decide) rfl ?_
            refine dk_aload_n (pc' := 155) hE dX11_readRule_154 rfl rfl rfl ?_
            refine gf_11_41 (pc' := 158) hE fl_X11_374 dX11_readRule_155 is_141 rfl (fun v146 hv146 htv146 hbv146 => ?_)
            have hq146 : v6 = v146 := (show v146 = v6 by rw [hv146, eσ144, dk_up_n (show ¬ (141 = 163 ∧ 41 = i) by omega), hv140]).symm
            subst hq146
            clear htv146 hbv146
            obtain ⟨v147, hv147⟩ : ∃ z : Int, z = 3 * v6 := ⟨_, rfl⟩
            refine dk_imul (pc' := 159) hE dX11_readRule_158 hv147.symm (by omega) rfl ?_
            refine dk_iload_n (pc' := 160) hE dX11_readRule_159 rfl rfl rfl ?_
            obtain ⟨v148, hv148⟩ : ∃ z : Int, z = v147 + 0 := ⟨_, rfl⟩
            refine dk_iadd (pc' := 161) hE dX11_readRule_160 hv148.symm (by omega) rfl ?_
            have hrnv148 : i = v148 := by omega
            subst hrnv148
            refine dk_iconst (pc' := 162) hE dX11_readRule_161 (by decide) rfl ?_
            refine pa_97 (pc' := 163) hE dX11_readRule_162 is_169 (by omega) (by omega) trivial rfl (fun σ149 eσ149 => ?_)
            have gi150 : QX c r σ16 σ149 := QX_u gi145 (by omega) (by omega) eσ149
            refine dk_aload_n (pc' := 164) hE dX11_readRule_163 rfl rfl rfl ?_
            refine dk_aload_n (pc' := 165) hE dX11_readRule_164 rfl rfl rfl ?_
            refine dk_bipush (pc' := 167) hE dX11_readRule_165 (by decide) rfl ?_
            refine dk_cV (pc' := 170) (as := [(0, 59)]) hE lk_X11_298 (ct_X11_is l G hGd 59) dX11_readRule_167 rfl is_141 rfl (by decide) (Nat.le_of_ble_eq_true rfl) rfl rfl (fun r152 σ151 hr152 hor152 => ?_)
            obtain ⟨v153, rfl, hfσ151, hpr152⟩ := hr152
            have hsσ151 : σ149 = σ151 := (funext (fun k => funext (fun j => hfσ151 k j not_false))).symm
            subst hsσ151
            rcases hpr152 with ⟨rfl, hpr152⟩ | rfl
            · skip
              have hz154 : σ149 141 3 = σ 141 3 := by rw [eσ149, dk_up_n (show ¬ (141 = 169 ∧ 3 = i) by omega), eσ144, dk_up_n (show ¬ (141 = 163 ∧ 3 = i) by omega), eσ103, dk_up_n (show ¬ (141 = 162 ∧ 3 = i) by omega), hfσ95 141 3 (by omega), hfσ16 141 3 (by omega)]
              refine dk_cV (pc' := 173) (as := [(0, 1)]) hE lk_X11_301 (ct_X11_must l G hGd 1) dX11_readRule_170 rfl is_141 rfl (by decide) (Nat.le_of_ble_eq_true rfl) ⟨rfl, (NX_tk (gi150).1), (by omega)⟩ rfl (fun r156 σ155 hr156 hor156 => ?_)
              obtain ⟨rfl, hfσ155, hpr156⟩ := hr156
              have gi157 : QX c r σ16 σ155 := QX_tr gi150 hpr156 (fun k_ j_ h_ => hfσ155 k_ j_ (by omega))
              have hz158 : σ155 141 42 = c := by rw [hfσ155 141 42 (by omega), eσ149, dk_up_n (show ¬ (141 = 169 ∧ 42 = i) by omega), eσ144, dk_up_n (show ¬ (141 = 163 ∧ 42 = i) by omega), hv143]
              exact dk_vret (st := []) hE hR dX11_readRule_173 ⟨rfl, (fun k_ j_ h_ => by rw [hfσ155 k_ j_ (fun w_ => h_ (w_.elim (fun x0_ => Or.inl (x0_)) (fun y0_ => y0_.elim (fun x1_ => Or.inr (Or.inl (x1_))) (fun y1_ => y1_.elim (fun x2_ => Or.inr (Or.inr (Or.inl (x2_)))) (fun y2_ => y2_.elim (fun x3_ => Or.inr (Or.inr (Or.inr (Or.inl (x3_))))) (fun y3_ => y3_.elim (fun x4_ => Or.inr (Or.inr (Or.inr (Or.inr (Or.inl (x4_)))))) (fun y4_ => y4_.elim (fun x5_ => Or.inr (Or.inr (Or.inr (Or.inr (Or.inr (Or.inl (x5_))))))) (fun y5_ => Or.inr (Or.inr (Or.inr (Or.inr (Or.inr (Or.inr (Or.inl (y5_))))))))))))))), eσ149, dk_up_n (show ¬ (k_ = 169 ∧ j_ = i) from fun q_ => h_ (Or.inr (Or.inr (Or.inr (Or.inr (Or.inr (Or.inr (Or.inr (Or.inr (Or.inr (Or.inr (Or.inr (Or.inr (Or.inr (q_.1))))))))))))))), eσ144, dk_up_n (show ¬ (k_ = 163 ∧ j_ = i) from fun q_ => h_ (Or.inr (Or.inr (Or.inr (Or.inr (Or.inr (Or.inr (Or.inr (Or.inr (Or.inr (Or.inr (Or.inr (Or.inr (Or.inl (dk_wr (lo := 162) (hi := 163) q_.1 (by decide)))))))))))))))), eσ103, dk_up_n (show ¬ (k_ = 162 ∧ j_ = i) from fun q_ => h_ (Or.inr (Or.inr (Or.inr (Or.inr (Or.inr (Or.inr (Or.inr (Or.inr (Or.inr (Or.inr (Or.inr (Or.inr (Or.inl (dk_wr (lo := 162) (hi := 163) q_.1 (by decide)))))))))))))))), hfσ95 k_ j_ (fun w_ => h_ (w_.elim (fun x0_ => Or.inl (x0_)) (fun y0_ => y0_.elim (fun x1_ => Or.inr (Or.inl (x1_))) (fun y1_ => y1_.elim (fun x2_ => Or.inr (Or.inr (Or.inl (x2_)))) (fun y2_ => y2_.elim (fun x3_ => Or.inr (Or.inr (Or.inr (Or.inl (x3_))))) (fun y3_ => y3_.elim (fun x4_ => Or.inr (Or.inr (Or.inr (Or.inr (Or.inl (x4_)))))) (fun y4_ => y4_.elim (fun x5_ => Or.inr (Or.inr (Or.inr (Or.inr (Or.inr (Or.inl (x5_))))))) (fun y5_ => Or.inr (Or.inr (Or.inr (Or.inr (Or.inr (Or.inr (Or.inl (y5_))))))))))))))), hfσ16 k_ j_ (fun w_ => h_ (w_.elim (fun x0_ => Or.inr (Or.inr (Or.inl (x0_)))) (fun y0_ => y0_.elim (fun x1_ => Or.inr (Or.inr (Or.inr (Or.inl (x1_))))) (fun y1_ => y1_.elim (fun x2_ => Or.inr (Or.inr (Or.inr (Or.inr (Or.inl (x2_)))))) (fun y2_ => y2_.elim (fun x3_ => Or.inr (Or.inr (Or.inr (Or.inr (Or.inr (Or.inl (x3_))))))) (fun y3_ => Or.inr (Or.inr (Or.inr (Or.inr (Or.inr (Or.inr (Or.inl (y3_)))))))))))))]), ⟨NX_tr hB.1 (gi157).1, RS_line (n := 0) hRS hc.symm (QX_qx hB hB2 gi157) (by omega) (fun j_ h_ => ⟨by rw [hfσ155 162 j_ (by omega), eσ149, dk_up_n (show ¬ (162 = 169 ∧ j_ = i) by omega), eσ144, dk_up_n (show ¬ (162 = 163 ∧ j_ = i) by omega), eσ103, dk_up_n (show ¬ (162 = 162 ∧ j_ = i) by omega), hfσ95 162 j_ (by omega), hfσ16 162 j_ (by omega)], by rw [hfσ155 163 j_ (by omega), eσ149, dk_up_n (show ¬ (163 = 169 ∧ j_ = i) by omega), eσ144, dk_up_n (show ¬ (163 = 163 ∧ j_ = i) by omega), eσ103, dk_up_n (show ¬ (163 = 162 ∧ j_ = i) by omega), hfσ95 163 j_ (by omega), hfσ16 163 j_ (by omega)], by rw [hfσ155 169 j_ (by omega), eσ149, dk_up_n (show ¬ (169 = 169 ∧ j_ = i) by omega), eσ144, dk_up_n (show ¬ (169 = 163 ∧ j_ = i) by omega), eσ103, dk_up_n (show ¬ (169 = 162 ∧ j_ = i) by omega), hfσ95 169 j_ (by omega), hfσ16 169 j_ (by omega)]⟩) (fun _ => ⟨by rw [← hi, hfσ155 162 i (by omega), eσ149, dk_up_n (show ¬ (162 = 169 ∧ i = i) by omega), eσ144, dk_up_n (show ¬ (162 = 163 ∧ i = i) by omega), eσ103, dk_up_s], by rw [← hi, hfσ155 163 i (by omega), eσ149, dk_up_n (show ¬ (163 = 169 ∧ i = i) by omega), eσ144, dk_up_s]; omega⟩), fun a_ q_ => Or.inr (by have x_ := (gi157).1.2.2.1; have t_ := hT.2.2 q_; have y_ := H85.2.2.1; omega)⟩⟩
            · skip
              have hz159 : σ149 141 3 = σ 141 3 := by rw [eσ149, dk_up_n (show ¬ (141 = 169 ∧ 3 = i) by omega), eσ144, dk_up_n (show ¬ (141 = 163 ∧ 3 = i) by omega), eσ103, dk_up_n (show ¬ (141 = 162 ∧ 3 = i) by omega), hfσ95 141 3 (by omega), hfσ16 141 3 (by omega)]
              refine dk_cV (pc' := 173) (as := [(0, 0)]) hE lk_X11_301 (ct_X11_must l G hGd 0) dX11_readRule_170 rfl is_141 rfl (by decide) (Nat.le_of_ble_eq_true rfl) ⟨rfl, (NX_tk (gi150).1), (by omega)⟩ rfl (fun r161 σ160 hr161 hor161 => ?_)
              obtain ⟨rfl, hfσ160, hpr161⟩ := hr161
              have gi162 : QX c r σ16 σ160 := QX_tr gi150 hpr161 (fun k_ j_ h_ => hfσ160 k_ j_ (by omega))
              have hz163 : σ160 141 42 = c := by rw [hfσ160 141 42 (by omega), eσ149, dk_up_n (show ¬ (141 = 169 ∧ 42 = i) by omega), eσ144, dk_up_n (show ¬ (141 = 163 ∧ 42 = i) by omega), hv143]
              exact dk_vret (st := []) hE hR dX11_readRule_173 ⟨rfl, (fun k_ j_ h_ => by rw [hfσ160 k_ j_ (fun w_ => h_ (w_.elim (fun x0_ => Or.inl (x0_)) (fun y0_ => y0_.elim (fun x1_ => Or.inr (Or.inl (x1_))) (fun y1_ => y1_.elim (fun x2_ => Or.inr (Or.inr (Or.inl (x2_)))) (fun y2_ => y2_.elim (fun x3_ => Or.inr (Or.inr (Or.inr (Or.inl (x3_))))) (fun y3_ => y3_.elim (fun x4_ => Or.inr (Or.inr (Or.inr (Or.inr (Or.inl (x4_)))))) (fun y4_ => y4_.elim (fun x5_ => Or.inr (Or.inr (Or.inr (Or.inr (Or.inr (Or.inl (x5_))))))) (fun y5_ => Or.inr (Or.inr (Or.inr (Or.inr (Or.inr (Or.inr (Or.inl (y5_))))))))))))))), eσ149, dk_up_n (show ¬ (k_ = 169 ∧ j_ = i) from fun q_ => h_ (Or.inr (Or.inr (Or.inr (Or.inr (Or.inr (Or.inr (Or.inr (Or.inr (Or.inr (Or.inr (Or.inr (Or.inr (Or.inr (q_.1))))))))))))))), eσ144, dk_up_n (show ¬ (k_ = 163 ∧ j_ = i) from fun q_ => h_ (Or.inr (Or.inr (Or.inr (Or.inr (Or.inr (Or.inr (Or.inr (Or.inr (Or.inr (Or.inr (Or.inr (Or.inr (Or.inl (dk_wr (lo := 162) (hi := 163) q_.1 (by decide)))))))))))))))), eσ103, dk_up_n (show ¬ (k_ = 162 ∧ j_ = i) from fun q_ => h_ (Or.inr (Or.inr (Or.inr (Or.inr (Or.inr (Or.inr (Or.inr (Or.inr (Or.inr (Or.inr (Or.inr (Or.inr (Or.inl (dk_wr (lo := 162) (hi := 163) q_.1 (by decide)))))))))))))))), hfσ95 k_ j_ (fun w_ => h_ (w_.elim (fun x0_ => Or.inl (x0_)) (fun y0_ => y0_.elim (fun x1_ => Or.inr (Or.inl (x1_))) (fun y1_ => y1_.elim (fun x2_ => Or.inr (Or.inr (Or.inl (x2_)))) (fun y2_ => y2_.elim (fun x3_ => Or.inr (Or.inr (Or.inr (Or.inl (x3_))))) (fun y3_ => y3_.elim (fun x4_ => Or.inr (Or.inr (Or.inr (Or.inr (Or.inl (x4_)))))) (fun y4_ => y4_.elim (fun x5_ => Or.inr (Or.inr (Or.inr (Or.inr (Or.inr (Or.inl (x5_))))))) (fun y5_ => Or.inr (Or.inr (Or.inr (Or.inr (Or.inr (Or.inr (Or.inl (y5_))))))))))))))), hfσ16 k_ j_ (fun w_ => h_ (w_.elim (fun x0_ => Or.inr (Or.inr (Or.inl (x0_)))) (fun y0_ => y0_.elim (fun x1_ => Or.inr (Or.inr (Or.inr (Or.inl (x1_))))) (fun y1_ => y1_.elim (fun x2_ => Or.inr (Or.inr (Or.inr (Or.inr (Or.inl (x2_)))))) (fun y2_ => y2_.elim (fun x3_ => Or.inr (Or.inr (Or.inr (Or.inr (Or.inr (Or.inl (x3_))))))) (fun y3_ => Or.inr (Or.inr (Or.inr (Or.inr (Or.inr (Or.inr (Or.inl (y3_)))))))))))))]), ⟨NX_tr hB.1 (gi162).1, RS_line (n := 0) hRS hc.symm (QX_qx hB hB2 gi162) (by omega) (fun j_ h_ => ⟨by rw [hfσ160 162 j_ (by omega), eσ149, dk_up_n (show ¬ (162 = 169 ∧ j_ = i) by omega), eσ144, dk_up_n (show ¬ (162 = 163 ∧ j_ = i) by omega), eσ103, dk_up_n (show ¬ (162 = 162 ∧ j_ = i) by omega), hfσ95 162 j_ (by omega), hfσ16 162 j_ (by omega)], by rw [hfσ160 163 j_ (by omega), eσ149, dk_up_n (show ¬ (163 = 169 ∧ j_ = i) by omega), eσ144, dk_up_n (show ¬ (163 = 163 ∧ j_ = i) by omega), eσ103, dk_up_n (show ¬ (163 = 162 ∧ j_ = i) by omega), hfσ95 163 j_ (by omega), hfσ16 163 j_ (by omega)], by rw [hfσ160 169 j_ (by omega), eσ149, dk_up_n (show ¬ (169 = 169 ∧ j_ = i) by omega), eσ144, dk_up_n (show ¬ (169 = 163 ∧ j_ = i) by omega), eσ103, dk_up_n (show ¬ (169 = 162 ∧ j_ = i) by omega), hfσ95 169 j_ (by omega), hfσ16 169 j_ (by omega)]⟩) (fun _ => ⟨by rw [← hi, hfσ160 162 i (by omega), eσ149, dk_up_n (show ¬ (162 = 169 ∧ i = i) by omega), eσ144, dk_up_n (show ¬ (162 = 163 ∧ i = i) by omega), eσ103, dk_up_s], by rw [← hi, hfσ160 163 i (by omega), eσ149, dk_up_n (show ¬ (163 = 169 ∧ i = i) by omega), eσ144, dk_up_s]; omega⟩), fun a_ q_ => Or.inr (by have x_ := (gi162).1.2.2.1; have t_ := hT.2.2 q_; have y_ := H85.2.2.1; omega)⟩⟩
      · skip
        refine dk_if_ne (tgt := 84) (pc' := 83) hE dX11_readRule_80 (by decide) rfl (fun hc164 => absurd hc164 (by decide)) (fun hc164 => ?_)
        have hz165 : σ 141 42 = c := by rw [hc]
        exact dk_vret (st := []) hE hR dX11_readRule_83 ⟨rfl, (fun k_ j_ h_ => rfl), ⟨((QX_of hT hRS.1 hc)).1, RS_fr hRS ((QX_of hT hRS.1 hc)).1 (fun k_ j_ h_ => rfl), fun a_ q_ => Or.inl (by omega)⟩⟩
    · skip
      refine dk_aload_n (pc' := 73) hE dX11_readRule_72 rfl rfl rfl ?_
      refine dk_cV (pc' := 76) (as := []) hE lk_X11_257 (ct_X11_wrong l G hGd) dX11_readRule_73 rfl is_141 rfl (by decide) (Nat.le_of_ble_eq_true rfl) rfl rfl (fun r167 σ166 hr167 hor167 => ?_)
      obtain ⟨rfl, hfσ166, hpr167⟩ := hr167
      have gi168 : QX c r σ σ166 := QX_f (QX_of hT hRS.1 hc) hfσ166 hpr167
      refine dk_aload_n (pc' := 77) hE dX11_readRule_76 rfl rfl rfl ?_
      refine dk_cV (pc' := 80) (as := []) hE lk_X11_250 (ct_X11_isGood l G hGd) dX11_readRule_77 rfl is_141 rfl (by decide) (Nat.le_of_ble_eq_true rfl) rfl rfl (fun r170 σ169 hr170 hor170 => ?_)
      obtain ⟨v171, rfl, hfσ169, hpr170⟩ := hr170
      have hsσ169 : σ166 = σ169 := (funext (fun k => funext (fun j => hfσ169 k j not_false))).symm
      subst hsσ169
      rcases hpr170 with ⟨rfl, hpr170⟩ | ⟨rfl, hpr170⟩
      · skip
        refine dk_if_ne (tgt := 84) (pc' := 83) hE dX11_readRule_80 (by decide) rfl (fun hc172 => ?_) (fun hc172 => absurd hc172 (by decide))
        refine dk_aload_n (pc' := 85) hE dX11_readRule_84 rfl rfl rfl ?_
        have hz173 : σ166 141 7 = σ 141 7 := by rw [hfσ166 141 7 (by omega)]
        have hz174 : σ166 141 3 = σ 141 3 := by rw [hfσ166 141 3 (by omega)]
        have hz175 : σ166 141 3 = σ 141 3 := by rw [hfσ166 141 3 (by omega)]
        refine dk_cV (pc' := 88) (as := []) hE lk_X11_254 (ct_X11_next l G hGd) dX11_readRule_85 rfl is_141 rfl (by decide) (Nat.le_of_ble_eq_true rfl) ⟨rfl, ((NX_tk (gi168).1).2.1), (by omega)⟩ rfl (fun r177 σ176 hr177 hor177 => ?_)
        obtain ⟨rfl, hfσ176, hpr177⟩ := hr177
        have H85 := hpr177
        have gi178 : QX c r σ σ176 := QX_y gi168 hpr177 (fun k_ j_ h_ => hfσ176 k_ j_ (by omega))
        have hB : QX c r σ σ176 := gi178
        have hB2 : σ176 141 42 = c := by rw [hfσ176 141 42 (by omega), hfσ166 141 42 (by omega)]; exact hc.symm
        have gi179 : QX c r σ176 σ176 := QX_of (NX_tk hB.1) hB.2.1 hB2.symm
        refine dk_iload_n (pc' := 89) hE dX11_readRule_88 rfl rfl rfl ?_
        refine dk_iconst (pc' := 90) hE dX11_readRule_89 (by decide) rfl ?_
        refine dk_icmp_eq (tgt := 104) (pc' := 93) hE dX11_readRule_90 (by decide) rfl (fun hc180 => absurd hc180 (by decide)) (fun hc180 => ?_)
        refine dk_aload_n (pc' := 94) hE dX11_readRule_93 rfl rfl rfl ?_
        refine dk_aload_n (pc' := 95) hE dX11_readRule_94 rfl rfl rfl ?_
        refine dk_ldc2 (pc' := 98) hE dX11_readRule_95 cs_X11_188 (by decide) rfl ?_
        refine dk_cV (pc' := 101) (as := [(3, 2003330414)]) hE lk_X11_281 (ct_X11_isWord l G hGd 2003330414) dX11_readRule_98 rfl is_141 rfl (by decide) (Nat.le_of_ble_eq_true rfl) rfl rfl (fun r182 σ181 hr182 hor182 => ?_)
        obtain ⟨v183, rfl, hfσ181, hpr182⟩ := hr182
        have hsσ181 : σ176 = σ181 := (funext (fun k => funext (fun j => hfσ181 k j not_false))).symm
        subst hsσ181
        rcases hpr182 with ⟨rfl, hpr182⟩ | rfl
        · skip
          have hz184 : σ176 141 3 = σ 141 3 := by rw [hfσ176 141 3 (by omega), hfσ166 141 3 (by omega)]
          refine dk_cV (pc' := 104) (as := [(0, 1)]) hE lk_X11_301 (ct_X11_must l G hGd 1) dX11_readRule_101 rfl is_141 rfl (by decide) (Nat.le_of_ble_eq_true rfl) ⟨rfl, (NX_tk (gi179).1), (by omega)⟩ rfl (fun r186 σ185 hr186 hor186 => ?_)
          obtain ⟨rfl, hfσ185, hpr186⟩ := hr186
          have gi187 : QX c r σ176 σ185 := QX_tr gi179 hpr186 (fun k_ j_ h_ => hfσ185 k_ j_ (by omega))
          obtain ⟨i, hi⟩ : ∃ i : Int, i = 3 * r + 0 := ⟨_, rfl⟩
          have gi188 : QX c r σ176 σ185 := gi187
          refine dk_aload_n (pc' := 105) hE dX11_readRule_104 rfl rfl rfl ?_
          refine gf_11_33 (pc' := 108) (w := 162) hE fl_X11_77 dX11_readRule_105 is_141 rfl rfl ?_
          refine dk_iconst (pc' := 109) hE dX11_readRule_108 (by decide) rfl ?_
          refine dk_aload_n (pc' := 110) hE dX11_readRule_109 rfl rfl rfl ?_
          refine gf_11_41 (pc' := 113) hE fl_X11_374 dX11_readRule_110 is_141 rfl (fun v189 hv189 htv189 hbv189 => ?_)
          have hq189 : v6 = v189 := (show v189 = v6 by rw [hv189, hfσ185 141 41 (by omega), hfσ176 141 41 (by omega), hfσ166 141 41 (by omega), hv6]).symm
          subst hq189
          clear htv189 hbv189
          obtain ⟨v190, hv190⟩ : ∃ z : Int, z = 3 * v6 := ⟨_, rfl⟩
          refine dk_imul (pc' := 114) hE dX11_readRule_113 hv190.symm (by omega) rfl ?_
          refine dk_iload_n (pc' := 115) hE dX11_readRule_114 rfl rfl rfl ?_
          obtain ⟨v191, hv191⟩ : ∃ z : Int, z = v190 + 0 := ⟨_, rfl⟩
          refine dk_iadd (pc' := 116) hE dX11_readRule_115 hv191.symm (by omega) rfl ?_
          have hrnv191 : i = v191 := by omega
          subst hrnv191
          refine dk_aload_n (pc' := 117) hE dX11_readRule_116 rfl rfl rfl ?_
          refine gf_11_42 (pc' := 120) hE fl_X11_377 dX11_readRule_117 is_141 rfl (fun v192 hv192 htv192 hbv192 => ?_)
          have hq192 : c = v192 := (show v192 = c by rw [hv192, hfσ185 141 42 (by omega), hfσ176 141 42 (by omega), hfσ166 141 42 (by omega), hc]).symm
          subst hq192
          clear htv192 hbv192
          refine pa_90 (pc' := 121) hE dX11_readRule_120 is_162 (by omega) trivial rfl (fun σ193 eσ193 => ?_)
          have gi194 : QX c r σ176 σ193 := QX_u gi188 (by omega) (by omega) eσ193
          refine dk_aload_n (pc' := 122) hE dX11_readRule_121 rfl rfl rfl ?_
          refine dk_cV (pc' := 125) (as := []) hE lk_X11_250 (ct_X11_isGood l G hGd) dX11_readRule_122 rfl is_141 rfl (by decide) (Nat.le_of_ble_eq_true rfl) rfl rfl (fun r196 σ195 hr196 hor196 => ?_)
          obtain ⟨v197, rfl, hfσ195, hpr196⟩ := hr196
          have hsσ195 : σ193 = σ195 := (funext (fun k => funext (fun j => hfσ195 k j not_false))).symm
          subst hsσ195
          rcases hpr196 with ⟨rfl, hpr196⟩ | ⟨rfl, hpr196⟩
          · skip
            refine dk_if_eq (tgt := 132) (pc' := 128) hE dX11_readRule_125 (by decide) rfl (fun hc198 => absurd hc198 (by decide)) (fun hc198 => ?_)
            refine dk_aload_n (pc' := 129) hE dX11_readRule_128 rfl rfl rfl ?_
            have hz199 : σ193 141 3 = σ 141 3 := by rw [eσ193, dk_up_n (show ¬ (141 = 162 ∧ 3 = i) by omega), hfσ185 141 3 (by omega), hfσ176 141 3 (by omega), hfσ166 141 3 (by omega)]
            have hz200 : σ193 141 42 = c := by rw [eσ193, dk_up_n (show ¬ (141 = 162 ∧ 42 = i) by omega), hv192]
            refine dk_cV (pc' := 132) (as := []) hE lk_X11_386 (ct_X11_e l G hGd c r) dX11_readRule_129 rfl is_141 rfl (by decide) (Nat.le_of_ble_eq_true rfl) ⟨rfl, (NX_tk (gi194).1), (by omega), ((gi194).2.1), (by omega), (by omega)⟩ rfl (fun r202 σ201 hr202 hor202 => ?_)
            obtain ⟨rfl, hfσ201, hpr202⟩ := hr202
            have hz203 : σ193 141 42 = c := by rw [eσ193, dk_up_n (show ¬ (141 = 162 ∧ 42 = i) by omega), hv192]
            have gi204 : QX c r σ176 σ201 := QX_qx gi194 (by omega) hpr202
            refine dk_aload_n (pc' := 133) hE dX11_readRule_132 rfl rfl rfl ?_
            refine gf_11_34 (pc' := 136) (w := 163) hE fl_X11_80 dX11_readRule_133 is_141 rfl rfl ?_
            refine dk_iconst (pc' := 137) hE dX11_readRule_136 (by decide) rfl ?_
            refine dk_aload_n (pc' := 138) hE dX11_readRule_137 rfl rfl rfl ?_
            refine gf_11_41 (pc' := 141) hE fl_X11_374 dX11_readRule_138 is_141 rfl (fun v205 hv205 htv205 hbv205 => ?_)
            have hq205 : v6 = v205 := (show v205 = v6 by rw [hv205, hfσ201 141 41 (by omega), eσ193, dk_up_n (show ¬ (141 = 162 ∧ 41 = i) by omega), hv189]).symm
            subst hq205
            clear htv205 hbv205
            obtain ⟨v206, hv206⟩ : ∃ z : Int, z = 3 * v6 := ⟨_, rfl⟩
            refine dk_imul (pc' := 142) hE dX11_readRule_141 hv206.symm (by omega) rfl ?_
            refine dk_iload_n (pc' := 143) hE dX11_readRule_142 rfl rfl rfl ?_
            obtain ⟨v207, hv207⟩ : ∃ z : Int, z = v206 + 0 := ⟨_, rfl⟩
            refine dk_iadd (pc' := 144) hE dX11_readRule_143 hv207.symm (by omega) rfl ?_
            have hrnv207 : i = v207 := by omega
            subst hrnv207
            refine dk_aload_n (pc' := 145) hE dX11_readRule_144 rfl rfl rfl ?_
            refine gf_11_42 (pc' := 148) hE fl_X11_377 dX11_readRule_145 is_141 rfl (fun v208 hv208 htv208 hbv208 => ?_)
            refine pa_91 (pc' := 149) hE dX11_readRule_148 is_163 (by omega) trivial rfl (fun σ209 eσ209 => ?_)
            have gi210 : QX c r σ176 σ209 := QX_u gi204 (by omega) (by omega) eσ209
            refine dk_aload_n (pc' := 150) hE dX11_readRule_149 rfl rfl rfl ?_
            refine gf_11_40 (pc' := 153) (w := 169) hE fl_X11_98 dX11_readRule_150 is_141 rfl rfl ?_
            refine dk_iconst (pc' := 154) hE dX11_readRule_153 (by decide) rfl ?_
            refine dk_aload_n (pc' := 155) hE dX11_readRule_154 rfl rfl rfl ?_
            refine gf_11_41 (pc' := 158) hE fl_X11_374 dX11_readRule_155 is_141 rfl (fun v211 hv211 htv211 hbv211 => ?_)
            have hq211 : v6 = v211 := (show v211 = v6 by rw [hv211, eσ209, dk_up_n (show ¬ (141 = 163 ∧ 41 = i) by omega), hv205]).symm
            subst hq211
            clear htv211 hbv211
            obtain ⟨v212, hv212⟩ : ∃ z : Int, z = 3 * v6 := ⟨_, rfl⟩
            refine dk_imul (pc' := 159) hE dX11_readRule_158 hv212.symm (by omega) rfl ?_
            refine dk_iload_n (pc' := 160) hE dX11_readRule_159 rfl rfl rfl ?_
            obtain ⟨v213, hv213⟩ : ∃ z : Int, z = v212 + 0 := ⟨_, rfl⟩
            refine dk_iadd (pc' := 161) hE dX11_readRule_160 hv213.symm (by omega) rfl ?_
            have hrnv213 : i = v213 := by omega
            subst hrnv213
            refine dk_iconst (pc' := 162) hE dX11_readRule_161 (by decide) rfl ?_
            refine pa_97 (pc' := 163) hE dX11_readRule_162 is_169 (by omega) (by omega) trivial rfl (fun σ214 eσ214 => ?_)
            have gi215 : QX c r σ176 σ214 := QX_u gi210 (by omega) (by omega) eσ214
            refine dk_aload_n (pc' := 164) hE dX11_readRule_163 rfl rfl rfl ?_
            refine dk_aload_n (pc' := 165) hE dX11_readRule_164 rfl rfl rfl ?_
            refine dk_bipush (pc' := 167) hE dX11_readRule_165 (by decide) rfl ?_
            refine dk_cV (pc' := 170) (as := [(0, 59)]) hE lk_X11_298 (ct_X11_is l G hGd 59) dX11_readRule_167 rfl is_141 rfl (by decide) (Nat.le_of_ble_eq_true rfl) rfl rfl (fun r217 σ216 hr217 hor217 => ?_)
            obtain ⟨v218, rfl, hfσ216, hpr217⟩ := hr217
            have hsσ216 : σ214 = σ216 := (funext (fun k => funext (fun j => hfσ216 k j not_false))).symm
            subst hsσ216
            rcases hpr217 with ⟨rfl, hpr217⟩ | rfl
            · skip
              have hz219 : σ214 141 3 = σ 141 3 := by rw [eσ214, dk_up_n (show ¬ (141 = 169 ∧ 3 = i) by omega), eσ209, dk_up_n (show ¬ (141 = 163 ∧ 3 = i) by omega), hfσ201 141 3 (by omega), eσ193, dk_up_n (show ¬ (141 = 162 ∧ 3 = i) by omega), hfσ185 141 3 (by omega), hfσ176 141 3 (by omega), hfσ166 141 3 (by omega)]
              refine dk_cV (pc' := 173) (as := [(0, 1)]) hE lk_X11_301 (ct_X11_must l G hGd 1) dX11_readRule_170 rfl is_141 rfl (by decide) (Nat.le_of_ble_eq_true rfl) ⟨rfl, (NX_tk (gi215).1), (by omega)⟩ rfl (fun r221 σ220 hr221 hor221 => ?_)
              obtain ⟨rfl, hfσ220, hpr221⟩ := hr221
              have gi222 : QX c r σ176 σ220 := QX_tr gi215 hpr221 (fun k_ j_ h_ => hfσ220 k_ j_ (by omega))
              have hz223 : σ220 141 42 = v208 := by rw [hfσ220 141 42 (by omega), eσ214, dk_up_n (show ¬ (141 = 169 ∧ 42 = i) by omega), eσ209, dk_up_n (show ¬ (141 = 163 ∧ 42 = i) by omega), hv208]
              exact dk_vret (st := []) hE hR dX11_readRule_173 ⟨rfl, (fun k_ j_ h_ => by rw [hfσ220 k_ j_ (fun w_ => h_ (w_.elim (fun x0_ => Or.inl (x0_)) (fun y0_ => y0_.elim (fun x1_ => Or.inr (Or.inl (x1_))) (fun y1_ => y1_.elim (fun x2_ => Or.inr (Or.inr (Or.inl (x2_)))) (fun y2_ => y2_.elim (fun x3_ => Or.inr (Or.inr (Or.inr (Or.inl (x3_))))) (fun y3_ => y3_.elim (fun x4_ => Or.inr (Or.inr (Or.inr (Or.inr (Or.inl (x4_)))))) (fun y4_ => y4_.elim (fun x5_ => Or.inr (Or.inr (Or.inr (Or.inr (Or.inr (Or.inl (x5_))))))) (fun y5_ => Or.inr (Or.inr (Or.inr (Or.inr (Or.inr (Or.inr (Or.inl (y5_))))))))))))))), eσ214, dk_up_n (show ¬ (k_ = 169 ∧ j_ = i) from fun q_ => h_ (Or.inr (Or.inr (Or.inr (Or.inr (Or.inr (Or.inr (Or.inr (Or.inr (Or.inr (Or.inr (Or.inr (Or.inr (Or.inr (q_.1))))))))))))))), eσ209, dk_up_n (show ¬ (k_ = 163 ∧ j_ = i) from fun q_ => h_ (Or.inr (Or.inr (Or.inr (Or.inr (Or.inr (Or.inr (Or.inr (Or.inr (Or.inr (Or.inr (Or.inr (Or.inr (Or.inl (dk_wr (lo := 162) (hi := 163) q_.1 (by decide)))))))))))))))), hfσ201 k_ j_ (fun w_ => h_ (w_.elim (fun x0_ => Or.inl (x0_)) (fun y0_ => y0_.elim (fun x1_ => Or.inr (Or.inl (x1_))) (fun y1_ => y1_.elim (fun x2_ => Or.inr (Or.inr (Or.inl (x2_)))) (fun y2_ => y2_.elim (fun x3_ => Or.inr (Or.inr (Or.inr (Or.inl (x3_))))) (fun y3_ => y3_.elim (fun x4_ => Or.inr (Or.inr (Or.inr (Or.inr (Or.inl (x4_)))))) (fun y4_ => y4_.elim (fun x5_ => Or.inr (Or.inr (Or.inr (Or.inr (Or.inr (Or.inl (x5_))))))) (fun y5_ => y5_.elim (fun x6_ => Or.inr (Or.inr (Or.inr (Or.inr (Or.inr (Or.inr (Or.inl (x6_)))))))) (fun y6_ => y6_.elim (fun x7_ => Or.inr (Or.inr (Or.inr (Or.inr (Or.inr (Or.inr (Or.inr (Or.inl (x7_))))))))) (fun y7_ => y7_.elim (fun x8_ => Or.inr (Or.inr (Or.inr (Or.inr (Or.inr (Or.inr (Or.inr (Or.inr (Or.inl (x8_)))))))))) (fun y8_ => y8_.elim (fun x9_ => Or.inr (Or.inr (Or.inr (Or.inr (Or.inr (Or.inr (Or.inr (Or.inr (Or.inr (Or.inl (x9_))))))))))) (fun y9_ => y9_.elim (fun x10_ => Or.inr (Or.inr (Or.inr (Or.inr (Or.inr (Or.inr (Or.inr (Or.inr (Or.inr (Or.inr (Or.inl (x10_)))))))))))) (fun y10_ => Or.inr (Or.inr (Or.inr (Or.inr (Or.inr (Or.inr (Or.inr (Or.inr (Or.inr (Or.inr (Or.inr (Or.inl (y10_))))))))))))))))))))))))), eσ193, dk_up_n (show ¬ (k_ = 162 ∧ j_ = i) from fun q_ => h_ (Or.inr (Or.inr (Or.inr (Or.inr (Or.inr (Or.inr (Or.inr (Or.inr (Or.inr (Or.inr (Or.inr (Or.inr (Or.inl (dk_wr (lo := 162) (hi := 163) q_.1 (by decide)))))))))))))))), hfσ185 k_ j_ (fun w_ => h_ (w_.elim (fun x0_ => Or.inl (x0_)) (fun y0_ => y0_.elim (fun x1_ => Or.inr (Or.inl (x1_))) (fun y1_ => y1_.elim (fun x2_ => Or.inr (Or.inr (Or.inl (x2_)))) (fun y2_ => y2_.elim (fun x3_ => Or.inr (Or.inr (Or.inr (Or.inl (x3_))))) (fun y3_ => y3_.elim (fun x4_ => Or.inr (Or.inr (Or.inr (Or.inr (Or.inl (x4_)))))) (fun y4_ => y4_.elim (fun x5_ => Or.inr (Or.inr (Or.inr (Or.inr (Or.inr (Or.inl (x5_))))))) (fun y5_ => Or.inr (Or.inr (Or.inr (Or.inr (Or.inr (Or.inr (Or.inl (y5_))))))))))))))), hfσ176 k_ j_ (fun w_ => h_ (w_.elim (fun x0_ => Or.inr (Or.inr (Or.inl (x0_)))) (fun y0_ => y0_.elim (fun x1_ => Or.inr (Or.inr (Or.inr (Or.inl (x1_))))) (fun y1_ => y1_.elim (fun x2_ => Or.inr (Or.inr (Or.inr (Or.inr (Or.inl (x2_)))))) (fun y2_ => y2_.elim (fun x3_ => Or.inr (Or.inr (Or.inr (Or.inr (Or.inr (Or.inl (x3_))))))) (fun y3_ => Or.inr (Or.inr (Or.inr (Or.inr (Or.inr (Or.inr (Or.inl (y3_))))))))))))), hfσ166 k_ j_ (fun w_ => h_ (w_.elim (fun x0_ => Or.inl (x0_)) (fun y0_ => Or.inr (Or.inl (y0_)))))]), ⟨NX_tr hB.1 (gi222).1, RS_line (n := 0) hRS hc.symm (QX_qx hB hB2 gi222) (by omega) (fun j_ h_ => ⟨by rw [hfσ220 162 j_ (by omega), eσ214, dk_up_n (show ¬ (162 = 169 ∧ j_ = i) by omega), eσ209, dk_up_n (show ¬ (162 = 163 ∧ j_ = i) by omega), hfσ201 162 j_ (by omega), eσ193, dk_up_n (show ¬ (162 = 162 ∧ j_ = i) by omega), hfσ185 162 j_ (by omega), hfσ176 162 j_ (by omega), hfσ166 162 j_ (by omega)], by rw [hfσ220 163 j_ (by omega), eσ214, dk_up_n (show ¬ (163 = 169 ∧ j_ = i) by omega), eσ209, dk_up_n (show ¬ (163 = 163 ∧ j_ = i) by omega), hfσ201 163 j_ (by omega), eσ193, dk_up_n (show ¬ (163 = 162 ∧ j_ = i) by omega), hfσ185 163 j_ (by omega), hfσ176 163 j_ (by omega), hfσ166 163 j_ (by omega)], by rw [hfσ220 169 j_ (by omega), eσ214, dk_up_n (show ¬ (169 = 169 ∧ j_ = i) by omega), eσ209, dk_up_n (show ¬ (169 = 163 ∧ j_ = i) by omega), hfσ201 169 j_ (by omega), eσ193, dk_up_n (show ¬ (169 = 162 ∧ j_ = i) by omega), hfσ185 169 j_ (by omega), hfσ176 169 j_ (by omega), hfσ166 169 j_ (by omega)]⟩) (fun _ => ⟨by rw [← hi, hfσ220 162 i (by omega), eσ214, dk_up_n (show ¬ (162 = 169 ∧ i = i) by omega), eσ209, dk_up_n (show ¬ (162 = 163 ∧ i = i) by omega), hfσ201 162 i (by omega), eσ193, dk_up_s], by rw [← hi, hfσ220 163 i (by omega), eσ214, dk_up_n (show ¬ (163 = 169 ∧ i = i) by omega), eσ209, dk_up_s]; omega⟩), fun a_ q_ => Or.inr (by have x_ := (gi222).1.2.2.1; have t_ := hT.2.2 q_; have y_ := H85.2.2.1; omega)⟩⟩
            · skip
              have hz224 : σ214 141 3 = σ 141 3 := by rw [eσ214, dk_up_n (show ¬ (141 = 169 ∧ 3 = i) by omega), eσ209, dk_up_n (show ¬ (141 = 163 ∧ 3 = i) by omega), hfσ201 141 3 (by omega), eσ193, dk_up_n (show ¬ (141 = 162 ∧ 3 = i) by omega), hfσ185 141 3 (by omega), hfσ176 141 3 (by omega), hfσ166 141 3 (by omega)]
              refine dk_cV (pc' := 173) (as := [(0, 0)]) hE lk_X11_301 (ct_X11_must l G hGd 0) dX11_readRule_170 rfl is_141 rfl (by decide) (Nat.le_of_ble_eq_true rfl) ⟨rfl, (NX_tk (gi215).1), (by omega)⟩ rfl (fun r226 σ225 hr226 hor226 => ?_)
              obtain ⟨rfl, hfσ225, hpr226⟩ := hr226
              have gi227 : QX c r σ176 σ225 := QX_tr gi215 hpr226 (fun k_ j_ h_ => hfσ225 k_ j_ (by omega))
              have hz228 : σ225 141 42 = v208 := by rw [hfσ225 141 42 (by omega), eσ214, dk_up_n (show ¬ (141 = 169 ∧ 42 = i) by omega), eσ209, dk_up_n (show ¬ (141 = 163 ∧ 42 = i) by omega), hv208]
              exact dk_vret (st := []) hE hR dX11_readRule_173 ⟨rfl, (fun k_ j_ h_ => by rw [hfσ225 k_ j_ (fun w_ => h_ (w_.elim (fun x0_ => Or.inl (x0_)) (fun y0_ => y0_.elim (fun x1_ => Or.inr (Or.inl (x1_))) (fun y1_ => y1_.elim (fun x2_ => Or.inr (Or.inr (Or.inl (x2_)))) (fun y2_ => y2_.elim (fun x3_ => Or.inr (Or.inr (Or.inr (Or.inl (x3_))))) (fun y3_ => y3_.elim (fun x4_ => Or.inr (Or.inr (Or.inr (Or.inr (Or.inl (x4_)))))) (fun y4_ => y4_.elim (fun x5_ => Or.inr (Or.inr (Or.inr (Or.inr (Or.inr (Or.inl (x5_))))))) (fun y5_ => Or.inr (Or.inr (Or.inr (Or.inr (Or.inr (Or.inr (Or.inl (y5_))))))))))))))), eσ214, dk_up_n (show ¬ (k_ = 169 ∧ j_ = i) from fun q_ => h_ (Or.inr (Or.inr (Or.inr (Or.inr (Or.inr (Or.inr (Or.inr (Or.inr (Or.inr (Or.inr (Or.inr (Or.inr (Or.inr (q_.1))))))))))))))), eσ209, dk_up_n (show ¬ (k_ = 163 ∧ j_ = i) from fun q_ => h_ (Or.inr (Or.inr (Or.inr (Or.inr (Or.inr (Or.inr (Or.inr (Or.inr (Or.inr (Or.inr (Or.inr (Or.inr (Or.inl (dk_wr (lo := 162) (hi := 163) q_.1 (by decide)))))))))))))))), hfσ201 k_ j_ (fun w_ => h_ (w_.elim (fun x0_ => Or.inl (x0_)) (fun y0_ => y0_.elim (fun x1_ => Or.inr (Or.inl (x1_))) (fun y1_ => y1_.elim (fun x2_ => Or.inr (Or.inr (Or.inl (x2_)))) (fun y2_ => y2_.elim (fun x3_ => Or.inr (Or.inr (Or.inr (Or.inl (x3_))))) (fun y3_ => y3_.elim (fun x4_ => Or.inr (Or.inr (Or.inr (Or.inr (Or.inl (x4_)))))) (fun y4_ => y4_.elim (fun x5_ => Or.inr (Or.inr (Or.inr (Or.inr (Or.inr (Or.inl (x5_))))))) (fun y5_ => y5_.elim (fun x6_ => Or.inr (Or.inr (Or.inr (Or.inr (Or.inr (Or.inr (Or.inl (x6_)))))))) (fun y6_ => y6_.elim (fun x7_ => Or.inr (Or.inr (Or.inr (Or.inr (Or.inr (Or.inr (Or.inr (Or.inl (x7_))))))))) (fun y7_ => y7_.elim (fun x8_ => Or.inr (Or.inr (Or.inr (Or.inr (Or.inr (Or.inr (Or.inr (Or.inr (Or.inl (x8_)))))))))) (fun y8_ => y8_.elim (fun x9_ => Or.inr (Or.inr (Or.inr (Or.inr (Or.inr (Or.inr (Or.inr (Or.inr (Or.inr (Or.inl (x9_))))))))))) (fun y9_ => y9_.elim (fun x10_ => Or.inr (Or.inr (Or.inr (Or.inr (Or.inr (Or.inr (Or.inr (Or.inr (Or.inr (Or.inr (Or.inl (x10_)))))))))))) (fun y10_ => Or.inr (Or.inr (Or.inr (Or.inr (Or.inr (Or.inr (Or.inr (Or.inr (Or.inr (Or.inr (Or.inr (Or.inl (y10_))))))))))))))))))))))))), eσ193, dk_up_n (show ¬ (k_ = 162 ∧ j_ = i) from fun q_ => h_ (Or.inr (Or.inr (Or.inr (Or.inr (Or.inr (Or.inr (Or.inr (Or.inr (Or.inr (Or.inr (Or.inr (Or.inr (Or.inl (dk_wr (lo := 162) (hi := 163) q_.1 (by decide)))))))))))))))), hfσ185 k_ j_ (fun w_ => h_ (w_.elim (fun x0_ => Or.inl (x0_)) (fun y0_ => y0_.elim (fun x1_ => Or.inr (Or.inl (x1_))) (fun y1_ => y1_.elim (fun x2_ => Or.inr (Or.inr (Or.inl (x2_)))) (fun y2_ => y2_.elim (fun x3_ => Or.inr (Or.inr (Or.inr (Or.inl (x3_))))) (fun y3_ => y3_.elim (fun x4_ => Or.inr (Or.inr (Or.inr (Or.inr (Or.inl (x4_)))))) (fun y4_ => y4_.elim (fun x5_ => Or.inr (Or.inr (Or.inr (Or.inr (Or.inr (Or.inl (x5_))))))) (fun y5_ => Or.inr (Or.inr (Or.inr (Or.inr (Or.inr (Or.inr (Or.inl (y5_))))))))))))))), hfσ176 k_ j_ (fun w_ => h_ (w_.elim (fun x0_ => Or.inr (Or.inr (Or.inl (x0_)))) (fun y0_ => y0_.elim (fun x1_ => Or.inr (Or.inr (Or.inr (Or.inl (x1_))))) (fun y1_ => y1_.elim (fun x2_ => Or.inr (Or.inr (Or.inr (Or.inr (Or.inl (x2_)))))) (fun y2_ => y2_.elim (fun x3_ => Or.inr (Or.inr (Or.inr (Or.inr (Or.inr (Or.inl (x3_))))))) (fun y3_ => Or.inr (Or.inr (Or.inr (Or.inr (Or.inr (Or.inr (Or.inl (y3_))))))))))))), hfσ166 k_ j_ (fun w_ => h_ (w_.elim (fun x0_ => Or.inl (x0_)) (fun y0_ => Or.inr (Or.inl (y0_)))))]), ⟨NX_tr hB.1 (gi227).1, RS_line (n := 0) hRS hc.symm (QX_qx hB hB2 gi227) (by omega) (fun j_ h_ => ⟨by rw [hfσ225 162 j_ (by omega), eσ214, dk_up_n (show ¬ (162 = 169 ∧ j_ = i) by omega), eσ209, dk_up_n (show ¬ (162 = 163 ∧ j_ = i) by omega), hfσ201 162 j_ (by omega), eσ193, dk_up_n (show ¬ (162 = 162 ∧ j_ = i) by omega), hfσ185 162 j_ (by omega), hfσ176 162 j_ (by omega), hfσ166 162 j_ (by omega)], by rw [hfσ225 163 j_ (by omega), eσ214, dk_up_n (show ¬ (163 = 169 ∧ j_ = i) by omega), eσ209, dk_up_n (show ¬ (163 = 163 ∧ j_ = i) by omega), hfσ201 163 j_ (by omega), eσ193, dk_up_n (show ¬ (163 = 162 ∧ j_ = i) by omega), hfσ185 163 j_ (by omega), hfσ176 163 j_ (by omega), hfσ166 163 j_ (by omega)], by rw [hfσ225 169 j_ (by omega), eσ214, dk_up_n (show ¬ (169 = 169 ∧ j_ = i) by omega), eσ209, dk_up_n (show ¬ (169 = 163 ∧ j_ = i) by omega), hfσ201 169 j_ (by omega), eσ193, dk_up_n (show ¬ (169 = 162 ∧ j_ = i) by omega), hfσ185 169 j_ (by omega), hfσ176 169 j_ (by omega), hfσ166 169 j_ (by omega)]⟩) (fun _ => ⟨by rw [← hi, hfσ225 162 i (by omega), eσ214, dk_up_n (show ¬ (162 = 169 ∧ i = i) by omega), eσ209, dk_up_n (show ¬ (162 = 163 ∧ i = i) by omega), hfσ201 162 i (by omega), eσ193, dk_up_s], by rw [← hi, hfσ225 163 i (by omega), eσ214, dk_up_n (show ¬ (163 = 169 ∧ i = i) by omega), eσ209, dk_up_s]; omega⟩), fun a_ q_ => Or.inr (by have x_ := (gi227).1.2.2.1; have t_ := hT.2.2 q_; have y_ := H85.2.2.1; omega)⟩⟩
          · skip
            refine dk_if_eq (tgt := 132) (pc' := 128) hE dX11_readRule_125 (by decide) rfl (fun hc229 => ?_) (fun hc229 => absurd hc229 (by decide))
            refine dk_aload_n (pc' := 133) hE dX11_readRule_132 rfl rfl rfl ?_
            refine gf_11_34 (pc' := 136) (w := 163) hE fl_X11_80 dX11_readRule_133 is_141 rfl rfl ?_
            refine dk_iconst (pc' := 137) hE dX11_readRule_136 (by decide) rfl ?_
            refine dk_aload_n (pc' := 138) hE dX11_readRule_137 rfl rfl rfl ?_
            refine gf_11_41 (pc' := 141) hE fl_X11_374 dX11_readRule_138 is_141 rfl (fun v230 hv230 htv230 hbv230 => ?_)
            have hq230 : v6 = v230 := (show v230 = v6 by rw [hv230, eσ193, dk_up_n (show ¬ (141 = 162 ∧ 41 = i) by omega), hv189]).symm
            subst hq230
            clear htv230 hbv230
            obtain ⟨v231, hv231⟩ : ∃ z : Int, z = 3 * v6 := ⟨_, rfl⟩
            refine dk_imul (pc' := 142) hE dX11_readRule_141 hv231.symm (by omega) rfl ?_
            refine dk_iload_n (pc' := 143) hE dX11_readRule_142 rfl rfl rfl ?_
            obtain ⟨v232, hv232⟩ : ∃ z : Int, z = v231 + 0 := ⟨_, rfl⟩
            refine dk_iadd (pc' := 144) hE dX11_readRule_143 hv232.symm (by omega) rfl ?_
            have hrnv232 : i = v232 := by omega
            subst hrnv232
            refine dk_aload_n (pc' := 145) hE dX11_readRule_144 rfl rfl rfl ?_
            refine gf_11_42 (pc' := 148) hE fl_X11_377 dX11_readRule_145 is_141 rfl (fun v233 hv233 htv233 hbv233 => ?_)
            have hq233 : c = v233 := (show v233 = c by rw [hv233, eσ193, dk_up_n (show ¬ (141 = 162 ∧ 42 = i) by omega), hv192]).symm
            subst hq233
            clear htv233 hbv233
            refine pa_91 (pc' := 149) hE dX11_readRule_148 is_163 (by omega) trivial rfl (fun σ234 eσ234 => ?_)
            have gi235 : QX c r σ176 σ234 := QX_u gi194 (by omega) (by omega) eσ234
            refine dk_aload_n (pc' := 150) hE dX11_readRule_149 rfl rfl rfl ?_
            refine gf_11_40 (pc' := 153) (w := 169) hE fl_X11_98 dX11_readRule_150 is_141 rfl rfl ?_
            refine dk_iconst (pc' := 154) hE dX11_readRule_153 (by decide) rfl ?_
            refine dk_aload_n (pc' := 155) hE dX11_readRule_154 rfl rfl rfl ?_
            refine gf_11_41 (pc' := 158) hE fl_X11_374 dX11_readRule_155 is_141 rfl (fun v236 hv236 htv236 hbv236 => ?_)
            have hq236 : v6 = v236 := (show v236 = v6 by rw [hv236, eσ234, dk_up_n (show ¬ (141 = 163 ∧ 41 = i) by omega), hv230]).symm
            subst hq236
            clear htv236 hbv236
            obtain ⟨v237, hv237⟩ : ∃ z : Int, z = 3 * v6 := ⟨_, rfl⟩
            refine dk_imul (pc' := 159) hE dX11_readRule_158 hv237.symm (by omega) rfl ?_
            refine dk_iload_n (pc' := 160) hE dX11_readRule_159 rfl rfl rfl ?_
            obtain ⟨v238, hv238⟩ : ∃ z : Int, z = v237 + 0 := ⟨_, rfl⟩
            refine dk_iadd (pc' := 161) hE dX11_readRule_160 hv238.symm (by omega) rfl ?_
            have hrnv238 : i = v238 := by omega
            subst hrnv238
            refine dk_iconst (pc' := 162) hE dX11_readRule_161 (by decide) rfl ?_
            refine pa_97 (pc' := 163) hE dX11_readRule_162 is_169 (by omega) (by omega) trivial rfl (fun σ239 eσ239 => ?_)
            have gi240 : QX c r σ176 σ239 := QX_u gi235 (by omega) (by omega) eσ239
            refine dk_aload_n (pc' := 164) hE dX11_readRule_163 rfl rfl rfl ?_
            refine dk_aload_n (pc' := 165) hE dX11_readRule_164 rfl rfl rfl ?_
            refine dk_bipush (pc' := 167) hE dX11_readRule_165 (by decide) rfl ?_
            refine dk_cV (pc' := 170) (as := [(0, 59)]) hE lk_X11_298 (ct_X11_is l G hGd 59) dX11_readRule_167 rfl is_141 rfl (by decide) (Nat.le_of_ble_eq_true rfl) rfl rfl (fun r242 σ241 hr242 hor242 => ?_)
            obtain ⟨v243, rfl, hfσ241, hpr242⟩ := hr242
            have hsσ241 : σ239 = σ241 := (funext (fun k => funext (fun j => hfσ241 k j not_false))).symm
            subst hsσ241
            rcases hpr242 with ⟨rfl, hpr242⟩ | rfl
            · skip
              have hz244 : σ239 141 3 = σ 141 3 := by rw [eσ239, dk_up_n (show ¬ (141 = 169 ∧ 3 = i) by omega), eσ234, dk_up_n (show ¬ (141 = 163 ∧ 3 = i) by omega), eσ193, dk_up_n (show ¬ (141 = 162 ∧ 3 = i) by omega), hfσ185 141 3 (by omega), hfσ176 141 3 (by omega), hfσ166 141 3 (by omega)]
              refine dk_cV (pc' := 173) (as := [(0, 1)]) hE lk_X11_301 (ct_X11_must l G hGd 1) dX11_readRule_170 rfl is_141 rfl (by decide) (Nat.le_of_ble_eq_true rfl) ⟨rfl, (NX_tk (gi240).1), (by omega)⟩ rfl (fun r246 σ245 hr246 hor246 => ?_)
              obtain ⟨rfl, hfσ245, hpr246⟩ := hr246
              have gi247 : QX c r σ176 σ245 := QX_tr gi240 hpr246 (fun k_ j_ h_ => hfσ245 k_ j_ (by omega))
              have hz248 : σ245 141 42 = c := by rw [hfσ245 141 42 (by omega), eσ239, dk_up_n (show ¬ (141 = 169 ∧ 42 = i) by omega), eσ234, dk_up_n (show ¬ (141 = 163 ∧ 42 = i) by omega), hv233]
              exact dk_vret (st := []) hE hR dX11_readRule_173 ⟨rfl, (fun k_ j_ h_ => by rw [hfσ245 k_ j_ (fun w_ => h_ (w_.elim (fun x0_ => Or.inl (x0_)) (fun y0_ => y0_.elim (fun x1_ => Or.inr (Or.inl (x1_))) (fun y1_ => y1_.elim (fun x2_ => Or.inr (Or.inr (Or.inl (x2_)))) (fun y2_ => y2_.elim (fun x3_ => Or.inr (Or.inr (Or.inr (Or.inl (x3_))))) (fun y3_ => y3_.elim (fun x4_ => Or.inr (Or.inr (Or.inr (Or.inr (Or.inl (x4_)))))) (fun y4_ => y4_.elim (fun x5_ => Or.inr (Or.inr (Or.inr (Or.inr (Or.inr (Or.inl (x5_))))))) (fun y5_ => Or.inr (Or.inr (Or.inr (Or.inr (Or.inr (Or.inr (Or.inl (y5_))))))))))))))), eσ239, dk_up_n (show ¬ (k_ = 169 ∧ j_ = i) from fun q_ => h_ (Or.inr (Or.inr (Or.inr (Or.inr (Or.inr (Or.inr (Or.inr (Or.inr (Or.inr (Or.inr (Or.inr (Or.inr (Or.inr (q_.1))))))))))))))), eσ234, dk_up_n (show ¬ (k_ = 163 ∧ j_ = i) from fun q_ => h_ (Or.inr (Or.inr (Or.inr (Or.inr (Or.inr (Or.inr (Or.inr (Or.inr (Or.inr (Or.inr (Or.inr (Or.inr (Or.inl (dk_wr (lo := 162) (hi := 163) q_.1 (by decide)))))))))))))))), eσ193, dk_up_n (show ¬ (k_ = 162 ∧ j_ = i) from fun q_ => h_ (Or.inr (Or.inr (Or.inr (Or.inr (Or.inr (Or.inr (Or.inr (Or.inr (Or.inr (Or.inr (Or.inr (Or.inr (Or.inl (dk_wr (lo := 162) (hi := 163) q_.1 (by decide)))))))))))))))), hfσ185 k_ j_ (fun w_ => h_ (w_.elim (fun x0_ => Or.inl (x0_)) (fun y0_ => y0_.elim (fun x1_ => Or.inr (Or.inl (x1_))) (fun y1_ => y1_.elim (fun x2_ => Or.inr (Or.inr (Or.inl (x2_)))) (fun y2_ => y2_.elim (fun x3_ => Or.inr (Or.inr (Or.inr (Or.inl (x3_))))) (fun y3_ => y3_.elim (fun x4_ => Or.inr (Or.inr (Or.inr (Or.inr (Or.inl (x4_)))))) (fun y4_ => y4_.elim (fun x5_ => Or.inr (Or.inr (Or.inr (Or.inr (Or.inr (Or.inl (x5_))))))) (fun y5_ => Or.inr (Or.inr (Or.inr (Or.inr (Or.inr (Or.inr (Or.inl (y5_))))))))))))))), hfσ176 k_ j_ (fun w_ => h_ (w_.elim (fun x0_ => Or.inr (Or.inr (Or.inl (x0_)))) (fun y0_ => y0_.elim (fun x1_ => Or.inr (Or.inr (Or.inr (Or.inl (x1_))))) (fun y1_ => y1_.elim (fun x2_ => Or.inr (Or.inr (Or.inr (Or.inr (Or.inl (x2_)))))) (fun y2_ => y2_.elim (fun x3_ => Or.inr (Or.inr (Or.inr (Or.inr (Or.inr (Or.inl (x3_))))))) (fun y3_ => Or.inr (Or.inr (Or.inr (Or.inr (Or.inr (Or.inr (Or.inl (y3_))))))))))))), hfσ166 k_ j_ (fun w_ => h_ (w_.elim (fun x0_ => Or.inl (x0_)) (fun y0_ => Or.inr (Or.inl (y0_)))))]), ⟨NX_tr hB.1 (gi247).1, RS_line (n := 0) hRS hc.symm (QX_qx hB hB2 gi247) (by omega) (fun j_ h_ => ⟨by rw [hfσ245 162 j_ (by omega), eσ239, dk_up_n (show ¬ (162 = 169 ∧ j_ = i) by omega), eσ234, dk_up_n (show ¬ (162 = 163 ∧ j_ = i) by omega), eσ193, dk_up_n (show ¬ (162 = 162 ∧ j_ = i) by omega), hfσ185 162 j_ (by omega), hfσ176 162 j_ (by omega), hfσ166 162 j_ (by omega)], by rw [hfσ245 163 j_ (by omega), eσ239, dk_up_n (show ¬ (163 = 169 ∧ j_ = i) by omega), eσ234, dk_up_n (show ¬ (163 = 163 ∧ j_ = i) by omega), eσ193, dk_up_n (show ¬ (163 = 162 ∧ j_ = i) by omega), hfσ185 163 j_ (by omega), hfσ176 163 j_ (by omega), hfσ166 163 j_ (by omega)], by rw [hfσ245 169 j_ (by omega), eσ239, dk_up_n (show ¬ (169 = 169 ∧ j_ = i) by omega), eσ234, dk_up_n (show ¬ (169 = 163 ∧ j_ = i) by omega), eσ193, dk_up_n (show ¬ (169 = 162 ∧ j_ = i) by omega), hfσ185 169 j_ (by omega), hfσ176 169 j_ (by omega), hfσ166 169 j_ (by omega)]⟩) (fun _ => ⟨by rw [← hi, hfσ245 162 i (by omega), eσ239, dk_up_n (show ¬ (162 = 169 ∧ i = i) by omega), eσ234, dk_up_n (show ¬ (162 = 163 ∧ i = i) by omega), eσ193, dk_up_s], by rw [← hi, hfσ245 163 i (by omega), eσ239, dk_up_n (show ¬ (163 = 169 ∧ i = i) by omega), eσ234, dk_up_s]; omega⟩), fun a_ q_ => Or.inr (by have x_ := (gi247).1.2.2.1; have t_ := hT.2.2 q_; have y_ := H85.2.2.1; omega)⟩⟩
            · skip
              have hz249 : σ239 141 3 = σ 141 3 := by rw [eσ239, dk_up_n (show ¬ (141 = 169 ∧ 3 = i) by omega), eσ234, dk_up_n (show ¬ (141 = 163 ∧ 3 = i) by omega), eσ193, dk_up_n (show ¬ (141 = 162 ∧ 3 = i) by omega), hfσ185 141 3 (by omega), hfσ176 141 3 (by omega), hfσ166 141 3 (by omega)]
              refine dk_cV (pc' := 173) (as := [(0, 0)]) hE lk_X11_301 (ct_X11_must l G hGd 0) dX11_readRule_170 rfl is_141 rfl (by decide) (Nat.le_of_ble_eq_true rfl) ⟨rfl, (NX_tk (gi240).1), (by omega)⟩ rfl (fun r251 σ250 hr251 hor251 => ?_)
              obtain ⟨rfl, hfσ250, hpr251⟩ := hr251
              have gi252 : QX c r σ176 σ250 := QX_tr gi240 hpr251 (fun k_ j_ h_ => hfσ250 k_ j_ (by omega))
              have hz253 : σ250 141 42 = c := by rw [hfσ250 141 42 (by omega), eσ239, dk_up_n (show ¬ (141 = 169 ∧ 42 = i) by omega), eσ234, dk_up_n (show ¬ (141 = 163 ∧ 42 = i) by omega), hv233]
              exact dk_vret (st := []) hE hR dX11_readRule_173 ⟨rfl, (fun k_ j_ h_ => by rw [hfσ250 k_ j_ (fun w_ => h_ (w_.elim (fun x0_ => Or.inl (x0_)) (fun y0_ => y0_.elim (fun x1_ => Or.inr (Or.inl (x1_))) (fun y1_ => y1_.elim (fun x2_ => Or.inr (Or.inr (Or.inl (x2_)))) (fun y2_ => y2_.elim (fun x3_ => Or.inr (Or.inr (Or.inr (Or.inl (x3_))))) (fun y3_ => y3_.elim (fun x4_ => Or.inr (Or.inr (Or.inr (Or.inr (Or.inl (x4_)))))) (fun y4_ => y4_.elim (fun x5_ => Or.inr (Or.inr (Or.inr (Or.inr (Or.inr (Or.inl (x5_))))))) (fun y5_ => Or.inr (Or.inr (Or.inr (Or.inr (Or.inr (Or.inr (Or.inl (y5_))))))))))))))), eσ239, dk_up_n (show ¬ (k_ = 169 ∧ j_ = i) from fun q_ => h_ (Or.inr (Or.inr (Or.inr (Or.inr (Or.inr (Or.inr (Or.inr (Or.inr (Or.inr (Or.inr (Or.inr (Or.inr (Or.inr (q_.1))))))))))))))), eσ234, dk_up_n (show ¬ (k_ = 163 ∧ j_ = i) from fun q_ => h_ (Or.inr (Or.inr (Or.inr (Or.inr (Or.inr (Or.inr (Or.inr (Or.inr (Or.inr (Or.inr (Or.inr (Or.inr (Or.inl (dk_wr (lo := 162) (hi := 163) q_.1 (by decide)))))))))))))))), eσ193, dk_up_n (show ¬ (k_ = 162 ∧ j_ = i) from fun q_ => h_ (Or.inr (Or.inr (Or.inr (Or.inr (Or.inr (Or.inr (Or.inr (Or.inr (Or.inr (Or.inr (Or.inr (Or.inr (Or.inl (dk_wr (lo := 162) (hi := 163) q_.1 (by decide)))))))))))))))), hfσ185 k_ j_ (fun w_ => h_ (w_.elim (fun x0_ => Or.inl (x0_)) (fun y0_ => y0_.elim (fun x1_ => Or.inr (Or.inl (x1_))) (fun y1_ => y1_.elim (fun x2_ => Or.inr (Or.inr (Or.inl (x2_)))) (fun y2_ => y2_.elim (fun x3_ => Or.inr (Or.inr (Or.inr (Or.inl (x3_))))) (fun y3_ => y3_.elim (fun x4_ => Or.inr (Or.inr (Or.inr (Or.inr (Or.inl (x4_)))))) (fun y4_ => y4_.elim (fun x5_ => Or.inr (Or.inr (Or.inr (Or.inr (Or.inr (Or.inl (x5_))))))) (fun y5_ => Or.inr (Or.inr (Or.inr (Or.inr (Or.inr (Or.inr (Or.inl (y5_))))))))))))))), hfσ176 k_ j_ (fun w_ => h_ (w_.elim (fun x0_ => Or.inr (Or.inr (Or.inl (x0_)))) (fun y0_ => y0_.elim (fun x1_ => Or.inr (Or.inr (Or.inr (Or.inl (x1_))))) (fun y1_ => y1_.elim (fun x2_ => Or.inr (Or.inr (Or.inr (Or.inr (Or.inl (x2_)))))) (fun y2_ => y2_.elim (fun x3_ => Or.inr (Or.inr (Or.inr (Or.inr (Or.inr (Or.inl (x3_))))))) (fun y3_ => Or.inr (Or.inr (Or.inr (Or.inr (Or.inr (Or.inr (Or.inl (y3_))))))))))))), hfσ166 k_ j_ (fun w_ => h_ (w_.elim (fun x0_ => Or.inl (x0_)) (fun y0_ => Or.inr (Or.inl (y0_)))))]), ⟨NX_tr hB.1 (gi252).1, RS_line (n := 0) hRS hc.symm (QX_qx hB hB2 gi252) (by omega) (fun j_ h_ => ⟨by rw [hfσ250 162 j_ (by omega), eσ239, dk_up_n (show ¬ (162 = 169 ∧ j_ = i) by omega), eσ234, dk_up_n (show ¬ (162 = 163 ∧ j_ = i) by omega), eσ193, dk_up_n (show ¬ (162 = 162 ∧ j_ = i) by omega), hfσ185 162 j_ (by omega), hfσ176 162 j_ (by omega), hfσ166 162 j_ (by omega)], by rw [hfσ250 163 j_ (by omega), eσ239, dk_up_n (show ¬ (163 = 169 ∧ j_ = i) by omega), eσ234, dk_up_n (show ¬ (163 = 163 ∧ j_ = i) by omega), eσ193, dk_up_n (show ¬ (163 = 162 ∧ j_ = i) by omega), hfσ185 163 j_ (by omega), hfσ176 163 j_ (by omega), hfσ166 163 j_ (by omega)], by rw [hfσ250 169 j_ (by omega), eσ239, dk_up_n (show ¬ (169 = 169 ∧ j_ = i) by omega), eσ234, dk_up_n (show ¬ (169 = 163 ∧ j_ = i) by omega), eσ193, dk_up_n (show ¬ (169 = 162 ∧ j_ = i) by omega), hfσ185 169 j_ (by omega), hfσ176 169 j_ (by omega), hfσ166 169 j_ (by omega)]⟩) (fun _ => ⟨by rw [← hi, hfσ250 162 i (by omega), eσ239, dk_up_n (show ¬ (162 = 169 ∧ i = i) by omega), eσ234, dk_up_n (show ¬ (162 = 163 ∧ i = i) by omega), eσ193, dk_up_s], by rw [← hi, hfσ250 163 i (by omega), eσ239, dk_up_n (show ¬ (163 = 169 ∧ i = i) by omega), eσ234, dk_up_s]; omega⟩), fun a_ q_ => Or.inr (by have x_ := (gi252).1.2.2.1; have t_ := hT.2.2 q_; have y_ := H85.2.2.1; omega)⟩⟩
        · skip
          have hz254 : σ176 141 3 = σ 141 3 := by rw [hfσ176 141 3 (by omega), hfσ166 141 3 (by omega)]
          refine dk_cV (pc' := 104) (as := [(0, 0)]) hE lk_X11_301 (ct_X11_must l G hGd 0) dX11_readRule_101 rfl is_141 rfl (by decide) (Nat.le_of_ble_eq_true rfl) ⟨rfl, (NX_tk (gi179).1), (by omega)⟩ rfl (fun r256 σ255 hr256 hor256 => ?_)
          obtain ⟨rfl, hfσ255, hpr256⟩ := hr256
          have gi257 : QX c r σ176 σ255 := QX_tr gi179 hpr256 (fun k_ j_ h_ => hfσ255 k_ j_ (by omega))
          obtain ⟨i, hi⟩ : ∃ i : Int, i = 3 * r + 0 := ⟨_, rfl⟩
          have gi258 : QX c r σ176 σ255 := gi257
          refine dk_aload_n (pc' := 105) hE dX11_readRule_104 rfl rfl rfl ?_
          refine gf_11_33 (pc' := 108) (w := 162) hE fl_X11_77 dX11_readRule_105 is_141 rfl rfl ?_
          refine dk_iconst (pc' := 109) hE dX11_readRule_108 (by decide) rfl ?_
          refine dk_aload_n (pc' := 110) hE dX11_readRule_109 rfl rfl rfl ?_
          refine gf_11_41 (pc' := 113) hE fl_X11_374 dX11_readRule_110 is_141 rfl (fun v259 hv259 htv259 hbv259 => ?_)
          have hq259 : v6 = v259 := (show v259 = v6 by rw [hv259, hfσ255 141 41 (by omega), hfσ176 141 41 (by omega), hfσ166 141 41 (by omega), hv6]).symm
          subst hq259
          clear htv259 hbv259
          obtain ⟨v260, hv260⟩ : ∃ z : Int, z = 3 * v6 := ⟨_, rfl⟩
          refine dk_imul (pc' := 114) hE dX11_readRule_113 hv260.symm (by omega) rfl ?_
          refine dk_iload_n (pc' := 115) hE dX11_readRule_114 rfl rfl rfl ?_
          obtain ⟨v261, hv261⟩ : ∃ z : Int, z = v260 + 0 := ⟨_, rfl⟩
          refine dk_iadd (pc' := 116) hE dX11_readRule_115 hv261.symm (by omega) rfl ?_
          have hrnv261 : i = v261 := by omega
          subst hrnv261
          refine dk_aload_n (pc' := 117) hE dX11_readRule_116 rfl rfl rfl ?_
          refine gf_11_42 (pc' := 120) hE fl_X11_377 dX11_readRule_117 is_141 rfl (fun v262 hv262 htv262 hbv262 => ?_)
          have hq262 : c = v262 := (show v262 = c by rw [hv262, hfσ255 141 42 (by omega), hfσ176 141 42 (by omega), hfσ166 141 42 (by omega), hc]).symm
          subst hq262
          clear htv262 hbv262
          refine pa_90 (pc' := 121) hE dX11_readRule_120 is_162 (by omega) trivial rfl (fun σ263 eσ263 => ?_)
          have gi264 : QX c r σ176 σ263 := QX_u gi258 (by omega) (by omega) eσ263
          refine dk_aload_n (pc' := 122) hE dX11_readRule_121 rfl rfl rfl ?_
          refine dk_cV (pc' := 125) (as := []) hE lk_X11_250 (ct_X11_isGood l G hGd) dX11_readRule_122 rfl is_141 rfl (by decide) (Nat.le_of_ble_eq_true rfl) rfl rfl (fun r266 σ265 hr266 hor266 => ?_)
          obtain ⟨v267, rfl, hfσ265, hpr266⟩ := hr266
          have hsσ265 : σ263 = σ265 := (funext (fun k => funext (fun j => hfσ265 k j not_false))).symm
          subst hsσ265
          rcases hpr266 with ⟨rfl, hpr266⟩ | ⟨rfl, hpr266⟩
          · skip
            refine dk_if_eq (tgt := 132) (pc' := 128) hE dX11_readRule_125 (by decide) rfl (fun hc268 => absurd hc268 (by decide)) (fun hc268 => ?_)
            refine dk_aload_n (pc' := 129) hE dX11_readRule_128 rfl rfl rfl ?_
            have hz269 : σ263 141 3 = σ 141 3 := by rw [eσ263, dk_up_n (show ¬ (141 = 162 ∧ 3 = i) by omega), hfσ255 141 3 (by omega), hfσ176 141 3 (by omega), hfσ166 141 3 (by omega)]
            have hz270 : σ263 141 42 = c := by rw [eσ263, dk_up_n (show ¬ (141 = 162 ∧ 42 = i) by omega), hv262]
            refine dk_cV (pc' := 132) (as := []) hE lk_X11_386 (ct_X11_e l G hGd c r) dX11_readRule_129 rfl is_141 rfl (by decide) (Nat.le_of_ble_eq_true rfl) ⟨rfl, (NX_tk (gi264).1), (by omega), ((gi264).2.1), (by omega), (by omega)⟩ rfl (fun r272 σ271 hr272 hor272 => ?_)
            obtain ⟨rfl, hfσ271, hpr272⟩ := hr272
            have hz273 : σ263 141 42 = c := by rw [eσ263, dk_up_n (show ¬ (141 = 162 ∧ 42 = i) by omega), hv262]
            have gi274 : QX c r σ176 σ271 := QX_qx gi264 (by omega) hpr272
            refine dk_aload_n (pc' := 133) hE dX11_readRule_132 rfl rfl rfl ?_
            refine gf_11_34 (pc' := 136) (w := 163) hE fl_X11_80 dX11_readRule_133 is_141 rfl rfl ?_
            refine dk_iconst (pc' := 137) hE dX11_readRule_136 (by decide) rfl ?_
            refine dk_aload_n (pc' := 138) hE dX11_readRule_137 rfl rfl rfl ?_
            refine gf_11_41 (pc' := 141) hE fl_X11_374 dX11_readRule_138 is_141 rfl (fun v275 hv275 htv275 hbv275 => ?_)
            have hq275 : v6 = v275 := (show v275 = v6 by rw [hv275, hfσ271 141 41 (by omega), eσ263, dk_up_n (show ¬ (141 = 162 ∧ 41 = i) by omega), hv259]).symm
            subst hq275
            clear htv275 hbv275
            obtain ⟨v276, hv276⟩ : ∃ z : Int, z = 3 * v6 := ⟨_, rfl⟩
            refine dk_imul (pc' := 142) hE dX11_readRule_141 hv276.symm (by omega) rfl ?_
            refine dk_iload_n (pc' := 143) hE dX11_readRule_142 rfl rfl rfl ?_
            obtain ⟨v277, hv277⟩ : ∃ z : Int, z = v276 + 0 := ⟨_, rfl⟩
            refine dk_iadd (pc' := 144) hE dX11_readRule_143 hv277.symm (by omega) rfl ?_
            have hrnv277 : i = v277 := by omega
            subst hrnv277
            refine dk_aload_n (pc' := 145) hE dX11_readRule_144 rfl rfl rfl ?_
            refine gf_11_42 (pc' := 148) hE fl_X11_377 dX11_readRule_145 is_141 rfl (fun v278 hv278 htv278 hbv278 => ?_)
            refine pa_91 (pc' := 149) hE dX11_readRule_148 is_163 (by omega) trivial rfl (fun σ279 eσ279 => ?_)
            have gi280 : QX c r σ176 σ279 := QX_u gi274 (by omega) (by omega) eσ279
            refine dk_aload_n (pc' := 150) hE dX11_readRule_149 rfl rfl rfl ?_
            refine gf_11_40 (pc' := 153) (w := 169) hE fl_X11_98 dX11_readRule_150 is_141 rfl rfl ?_
            refine dk_iconst (pc' := 154) hE dX11_readRule_153 (by decide) rfl ?_
            refine dk_aload_n (pc' := 155) hE dX11_readRule_154 rfl rfl rfl ?_
            refine gf_11_41 (pc' := 158) hE fl_X11_374 dX11_readRule_155 is_141 rfl (fun v281 hv281 htv281 hbv281 => ?_)
            have hq281 : v6 = v281 := (show v281 = v6 by rw [hv281, eσ279, dk_up_n (show ¬ (141 = 163 ∧ 41 = i) by omega), hv275]).symm
            subst hq281
            clear htv281 hbv281
            obtain ⟨v282, hv282⟩ : ∃ z : Int, z = 3 * v6 := ⟨_, rfl⟩
            refine dk_imul (pc' := 159) hE dX11_readRule_158 hv282.symm (by omega) rfl ?_
            refine dk_iload_n (pc' := 160) hE dX11_readRule_159 rfl rfl rfl ?_
            obtain ⟨v283, hv283⟩ : ∃ z : Int, z = v282 + 0 := ⟨_, rfl⟩
            refine dk_iadd (pc' := 161) hE dX11_readRule_160 hv283.symm (by omega) rfl ?_
            have hrnv283 : i = v283 := by omega
            subst hrnv283
            refine dk_iconst (pc' := 162) hE dX11_readRule_161 (by decide) rfl ?_
            refine pa_97 (pc' := 163) hE dX11_readRule_162 is_169 (by omega) (by omega) trivial rfl (fun σ284 eσ284 => ?_)
            have gi285 : QX c r σ176 σ284 := QX_u gi280 (by omega) (by omega) eσ284
            refine dk_aload_n (pc' := 164) hE dX11_readRule_163 rfl rfl rfl ?_
            refine dk_aload_n (pc' := 165) hE dX11_readRule_164 rfl rfl rfl ?_
            refine dk_bipush (pc' := 167) hE dX11_readRule_165 (by decide) rfl ?_
            refine dk_cV (pc' := 170) (as := [(0, 59)]) hE lk_X11_298 (ct_X11_is l G hGd 59) dX11_readRule_167 rfl is_141 rfl (by decide) (Nat.le_of_ble_eq_true rfl) rfl rfl (fun r287 σ286 hr287 hor287 => ?_)
            obtain ⟨v288, rfl, hfσ286, hpr287⟩ := hr287
            have hsσ286 : σ284 = σ286 := (funext (fun k => funext (fun j => hfσ286 k j not_false))).symm
            subst hsσ286
            rcases hpr287 with ⟨rfl, hpr287⟩ | rfl
            · skip
              have hz289 : σ284 141 3 = σ 141 3 := by rw [eσ284, dk_up_n (show ¬ (141 = 169 ∧ 3 = i) by omega), eσ279, dk_up_n (show ¬ (141 = 163 ∧ 3 = i) by omega), hfσ271 141 3 (by omega), eσ263, dk_up_n (show ¬ (141 = 162 ∧ 3 = i) by omega), hfσ255 141 3 (by omega), hfσ176 141 3 (by omega), hfσ166 141 3 (by omega)]
              refine dk_cV (pc' := 173) (as := [(0, 1)]) hE lk_X11_301 (ct_X11_must l G hGd 1) dX11_readRule_170 rfl is_141 rfl (by decide) (Nat.le_of_ble_eq_true rfl) ⟨rfl, (NX_tk (gi285).1), (by omega)⟩ rfl (fun r291 σ290 hr291 hor291 => ?_)
              obtain ⟨rfl, hfσ290, hpr291⟩ := hr291
              have gi292 : QX c r σ176 σ290 := QX_tr gi285 hpr291 (fun k_ j_ h_ => hfσ290 k_ j_ (by omega))
              have hz293 : σ290 141 42 = v278 := by rw [hfσ290 141 42 (by omega), eσ284, dk_up_n (show ¬ (141 = 169 ∧ 42 = i) by omega), eσ279, dk_up_n (show ¬ (141 = 163 ∧ 42 = i) by omega), hv278]
              exact dk_vret (st := []) hE hR dX11_readRule_173 ⟨rfl, (fun k_ j_ h_ => by rw [hfσ290 k_ j_ (fun w_ => h_ (w_.elim (fun x0_ => Or.inl (x0_)) (fun y0_ => y0_.elim (fun x1_ => Or.inr (Or.inl (x1_))) (fun y1_ => y1_.elim (fun x2_ => Or.inr (Or.inr (Or.inl (x2_)))) (fun y2_ => y2_.elim (fun x3_ => Or.inr (Or.inr (Or.inr (Or.inl (x3_))))) (fun y3_ => y3_.elim (fun x4_ => Or.inr (Or.inr (Or.inr (Or.inr (Or.inl (x4_)))))) (fun y4_ => y4_.elim (fun x5_ => Or.inr (Or.inr (Or.inr (Or.inr (Or.inr (Or.inl (x5_))))))) (fun y5_ => Or.inr (Or.inr (Or.inr (Or.inr (Or.inr (Or.inr (Or.inl (y5_))))))))))))))), eσ284, dk_up_n (show ¬ (k_ = 169 ∧ j_ = i) from fun q_ => h_ (Or.inr (Or.inr (Or.inr (Or.inr (Or.inr (Or.inr (Or.inr (Or.inr (Or.inr (Or.inr (Or.inr (Or.inr (Or.inr (q_.1))))))))))))))), eσ279, dk_up_n (show ¬ (k_ = 163 ∧ j_ = i) from fun q_ => h_ (Or.inr (Or.inr (Or.inr (Or.inr (Or.inr (Or.inr (Or.inr (Or.inr (Or.inr (Or.inr (Or.inr (Or.inr (Or.inl (dk_wr (lo := 162) (hi := 163) q_.1 (by decide)))))))))))))))), hfσ271 k_ j_ (fun w_ => h_ (w_.elim (fun x0_ => Or.inl (x0_)) (fun y0_ => y0_.elim (fun x1_ => Or.inr (Or.inl (x1_))) (fun y1_ => y1_.elim (fun x2_ => Or.inr (Or.inr (Or.inl (x2_)))) (fun y2_ => y2_.elim (fun x3_ => Or.inr (Or.inr (Or.inr (Or.inl (x3_))))) (fun y3_ => y3_.elim (fun x4_ => Or.inr (Or.inr (Or.inr (Or.inr (Or.inl (x4_)))))) (fun y4_ => y4_.elim (fun x5_ => Or.inr (Or.inr (Or.inr (Or.inr (Or.inr (Or.inl (x5_))))))) (fun y5_ => y5_.elim (fun x6_ => Or.inr (Or.inr (Or.inr (Or.inr (Or.inr (Or.inr (Or.inl (x6_)))))))) (fun y6_ => y6_.elim (fun x7_ => Or.inr (Or.inr (Or.inr (Or.inr (Or.inr (Or.inr (Or.inr (Or.inl (x7_))))))))) (fun y7_ => y7_.elim (fun x8_ => Or.inr (Or.inr (Or.inr (Or.inr (Or.inr (Or.inr (Or.inr (Or.inr (Or.inl (x8_)))))))))) (fun y8_ => y8_.elim (fun x9_ => Or.inr (Or.inr (Or.inr (Or.inr (Or.inr (Or.inr (Or.inr (Or.inr (Or.inr (Or.inl (x9_))))))))))) (fun y9_ => y9_.elim (fun x10_ => Or.inr (Or.inr (Or.inr (Or.inr (Or.inr (Or.inr (Or.inr (Or.inr (Or.inr (Or.inr (Or.inl (x10_)))))))))))) (fun y10_ => Or.inr (Or.inr (Or.inr (Or.inr (Or.inr (Or.inr (Or.inr (Or.inr (Or.inr (Or.inr (Or.inr (Or.inl (y10_))))))))))))))))))))))))), eσ263, dk_up_n (show ¬ (k_ = 162 ∧ j_ = i) from fun q_ => h_ (Or.inr (Or.inr (Or.inr (Or.inr (Or.inr (Or.inr (Or.inr (Or.inr (Or.inr (Or.inr (Or.inr (Or.inr (Or.inl (dk_wr (lo := 162) (hi := 163) q_.1 (by decide)))))))))))))))), hfσ255 k_ j_ (fun w_ => h_ (w_.elim (fun x0_ => Or.inl (x0_)) (fun y0_ => y0_.elim (fun x1_ => Or.inr (Or.inl (x1_))) (fun y1_ => y1_.elim (fun x2_ => Or.inr (Or.inr (Or.inl (x2_)))) (fun y2_ => y2_.elim (fun x3_ => Or.inr (Or.inr (Or.inr (Or.inl (x3_))))) (fun y3_ => y3_.elim (fun x4_ => Or.inr (Or.inr (Or.inr (Or.inr (Or.inl (x4_)))))) (fun y4_ => y4_.elim (fun x5_ => Or.inr (Or.inr (Or.inr (Or.inr (Or.inr (Or.inl (x5_))))))) (fun y5_ => Or.inr (Or.inr (Or.inr (Or.inr (Or.inr (Or.inr (Or.inl (y5_))))))))))))))), hfσ176 k_ j_ (fun w_ => h_ (w_.elim (fun x0_ => Or.inr (Or.inr (Or.inl (x0_)))) (fun y0_ => y0_.elim (fun x1_ => Or.inr (Or.inr (Or.inr (Or.inl (x1_))))) (fun y1_ => y1_.elim (fun x2_ => Or.inr (Or.inr (Or.inr (Or.inr (Or.inl (x2_)))))) (fun y2_ => y2_.elim (fun x3_ => Or.inr (Or.inr (Or.inr (Or.inr (Or.inr (Or.inl (x3_))))))) (fun y3_ => Or.inr (Or.inr (Or.inr (Or.inr (Or.inr (Or.inr (Or.inl (y3_))))))))))))), hfσ166 k_ j_ (fun w_ => h_ (w_.elim (fun x0_ => Or.inl (x0_)) (fun y0_ => Or.inr (Or.inl (y0_)))))]), ⟨NX_tr hB.1 (gi292).1, RS_line (n := 0) hRS hc.symm (QX_qx hB hB2 gi292) (by omega) (fun j_ h_ => ⟨by rw [hfσ290 162 j_ (by omega), eσ284, dk_up_n (show ¬ (162 = 169 ∧ j_ = i) by omega), eσ279, dk_up_n (show ¬ (162 = 163 ∧ j_ = i) by omega), hfσ271 162 j_ (by omega), eσ263, dk_up_n (show ¬ (162 = 162 ∧ j_ = i) by omega), hfσ255 162 j_ (by omega), hfσ176 162 j_ (by omega), hfσ166 162 j_ (by omega)], by rw [hfσ290 163 j_ (by omega), eσ284, dk_up_n (show ¬ (163 = 169 ∧ j_ = i) by omega), eσ279, dk_up_n (show ¬ (163 = 163 ∧ j_ = i) by omega), hfσ271 163 j_ (by omega), eσ263, dk_up_n (show ¬ (163 = 162 ∧ j_ = i) by omega), hfσ255 163 j_ (by omega), hfσ176 163 j_ (by omega), hfσ166 163 j_ (by omega)], by rw [hfσ290 169 j_ (by omega), eσ284, dk_up_n (show ¬ (169 = 169 ∧ j_ = i) by omega), eσ279, dk_up_n (show ¬ (169 = 163 ∧ j_ = i) by omega), hfσ271 169 j_ (by omega), eσ263, dk_up_n (show ¬ (169 = 162 ∧ j_ = i) by omega), hfσ255 169 j_ (by omega), hfσ176 169 j_ (by omega), hfσ166 169 j_ (by omega)]⟩) (fun _ => ⟨by rw [← hi, hfσ290 162 i (by omega), eσ284, dk_up_n (show ¬ (162 = 169 ∧ i = i) by omega), eσ279, dk_up_n (show ¬ (162 = 163 ∧ i = i) by omega), hfσ271 162 i (by omega), eσ263, dk_up_s], by rw [← hi, hfσ290 163 i (by omega), eσ284, dk_up_n (show ¬ (163 = 169 ∧ i = i) by omega), eσ279, dk_up_s]; omega⟩), fun a_ q_ => Or.inr (by have x_ := (gi292).1.2.2.1; have t_ := hT.2.2 q_; have y_ := H85.2.2.1; omega)⟩⟩
            · skip
              have hz294 : σ284 141 3 = σ 141 3 := by rw [eσ284, dk_up_n (show ¬ (141 = 169 ∧ 3 = i) by omega), eσ279, dk_up_n (show ¬ (141 = 163 ∧ 3 = i) by omega), hfσ271 141 3 (by omega), eσ263, dk_up_n (show ¬ (141 = 162 ∧ 3 = i) by omega), hfσ255 141 3 (by omega), hfσ176 141 3 (by omega), hfσ166 141 3 (by omega)]
              refine dk_cV (pc' := 173) (as := [(0, 0)]) hE lk_X11_301 (ct_X11_must l G hGd 0) dX11_readRule_170 rfl is_141 rfl (by decide) (Nat.le_of_ble_eq_true rfl) ⟨rfl, (NX_tk (gi285).1), (by omega)⟩ rfl (fun r296 σ295 hr296 hor296 => ?_)
              obtain ⟨rfl, hfσ295, hpr296⟩ := hr296
              have gi297 : QX c r σ176 σ295 := QX_tr gi285 hpr296 (fun k_ j_ h_ => hfσ295 k_ j_ (by omega))
              have hz298 : σ295 141 42 = v278 := by rw [hfσ295 141 42 (by omega), eσ284, dk_up_n (show ¬ (141 = 169 ∧ 42 = i) by omega), eσ279, dk_up_n (show ¬ (141 = 163 ∧ 42 = i) by omega), hv278]
              exact dk_vret (st := []) hE hR dX11_readRule_173 ⟨rfl, (fun k_ j_ h_ => by rw [hfσ295 k_ j_ (fun w_ => h_ (w_.elim (fun x0_ => Or.inl (x0_)) (fun y0_ => y0_.elim (fun x1_ => Or.inr (Or.inl (x1_))) (fun y1_ => y1_.elim (fun x2_ => Or.inr (Or.inr (Or.inl (x2_)))) (fun y2_ => y2_.elim (fun x3_ => Or.inr (Or.inr (Or.inr (Or.inl (x3_))))) (fun y3_ => y3_.elim (fun x4_ => Or.inr (Or.inr (Or.inr (Or.inr (Or.inl (x4_)))))) (fun y4_ => y4_.elim (fun x5_ => Or.inr (Or.inr (Or.inr (Or.inr (Or.inr (Or.inl (x5_))))))) (fun y5_ => Or.inr (Or.inr (Or.inr (Or.inr (Or.inr (Or.inr (Or.inl (y5_))))))))))))))), eσ284, dk_up_n (show ¬ (k_ = 169 ∧ j_ = i) from fun q_ => h_ (Or.inr (Or.inr (Or.inr (Or.inr (Or.inr (Or.inr (Or.inr (Or.inr (Or.inr (Or.inr (Or.inr (Or.inr (Or.inr (q_.1))))))))))))))), eσ279, dk_up_n (show ¬ (k_ = 163 ∧ j_ = i) from fun q_ => h_ (Or.inr (Or.inr (Or.inr (Or.inr (Or.inr (Or.inr (Or.inr (Or.inr (Or.inr (Or.inr (Or.inr (Or.inr (Or.inl (dk_wr (lo := 162) (hi := 163) q_.1 (by decide)))))))))))))))), hfσ271 k_ j_ (fun w_ => h_ (w_.elim (fun x0_ => Or.inl (x0_)) (fun y0_ => y0_.elim (fun x1_ => Or.inr (Or.inl (x1_))) (fun y1_ => y1_.elim (fun x2_ => Or.inr (Or.inr (Or.inl (x2_)))) (fun y2_ => y2_.elim (fun x3_ => Or.inr (Or.inr (Or.inr (Or.inl (x3_))))) (fun y3_ => y3_.elim (fun x4_ => Or.inr (Or.inr (Or.inr (Or.inr (Or.inl (x4_)))))) (fun y4_ => y4_.elim (fun x5_ => Or.inr (Or.inr (Or.inr (Or.inr (Or.inr (Or.inl (x5_))))))) (fun y5_ => y5_.elim (fun x6_ => Or.inr (Or.inr (Or.inr (Or.inr (Or.inr (Or.inr (Or.inl (x6_)))))))) (fun y6_ => y6_.elim (fun x7_ => Or.inr (Or.inr (Or.inr (Or.inr (Or.inr (Or.inr (Or.inr (Or.inl (x7_))))))))) (fun y7_ => y7_.elim (fun x8_ => Or.inr (Or.inr (Or.inr (Or.inr (Or.inr (Or.inr (Or.inr (Or.inr (Or.inl (x8_)))))))))) (fun y8_ => y8_.elim (fun x9_ => Or.inr (Or.inr (Or.inr (Or.inr (Or.inr (Or.inr (Or.inr (Or.inr (Or.inr (Or.inl (x9_))))))))))) (fun y9_ => y9_.elim (fun x10_ => Or.inr (Or.inr (Or.inr (Or.inr (Or.inr (Or.inr (Or.inr (Or.inr (Or.inr (Or.inr (Or.inl (x10_)))))))))))) (fun y10_ => Or.inr (Or.inr (Or.inr (Or.inr (Or.inr (Or.inr (Or.inr (Or.inr (Or.inr (Or.inr (Or.inr (Or.inl (y10_))))))))))))))))))))))))), eσ263, dk_up_n (show ¬ (k_ = 162 ∧ j_ = i) from fun q_ => h_ (Or.inr (Or.inr (Or.inr (Or.inr (Or.inr (Or.inr (Or.inr (Or.inr (Or.inr (Or.inr (Or.inr (Or.inr (Or.inl (dk_wr (lo := 162) (hi := 163) q_.1 (by decide)))))))))))))))), hfσ255 k_ j_ (fun w_ => h_ (w_.elim (fun x0_ => Or.inl (x0_)) (fun y0_ => y0_.elim (fun x1_ => Or.inr (Or.inl (x1_))) (fun y1_ => y1_.elim (fun x2_ => Or.inr (Or.inr (Or.inl (x2_)))) (fun y2_ => y2_.elim (fun x3_ => Or.inr (Or.inr (Or.inr (Or.inl (x3_))))) (fun y3_ => y3_.elim (fun x4_ => Or.inr (Or.inr (Or.inr (Or.inr (Or.inl (x4_)))))) (fun y4_ => y4_.elim (fun x5_ => Or.inr (Or.inr (Or.inr (Or.inr (Or.inr (Or.inl (x5_))))))) (fun y5_ => Or.inr (Or.inr (Or.inr (Or.inr (Or.inr (Or.inr (Or.inl (y5_))))))))))))))), hfσ176 k_ j_ (fun w_ => h_ (w_.elim (fun x0_ => Or.inr (Or.inr (Or.inl (x0_)))) (fun y0_ => y0_.elim (fun x1_ => Or.inr (Or.inr (Or.inr (Or.inl (x1_))))) (fun y1_ => y1_.elim (fun x2_ => Or.inr (Or.inr (Or.inr (Or.inr (Or.inl (x2_)))))) (fun y2_ => y2_.elim (fun x3_ => Or.inr (Or.inr (Or.inr (Or.inr (Or.inr (Or.inl (x3_))))))) (fun y3_ => Or.inr (Or.inr (Or.inr (Or.inr (Or.inr (Or.inr (Or.inl (y3_))))))))))))), hfσ166 k_ j_ (fun w_ => h_ (w_.elim (fun x0_ => Or.inl (x0_)) (fun y0_ => Or.inr (Or.inl (y0_)))))]), ⟨NX_tr hB.1 (gi297).1, RS_line (n := 0) hRS hc.symm (QX_qx hB hB2 gi297) (by omega) (fun j_ h_ => ⟨by rw [hfσ295 162 j_ (by omega), eσ284, dk_up_n (show ¬ (162 = 169 ∧ j_ = i) by omega), eσ279, dk_up_n (show ¬ (162 = 163 ∧ j_ = i) by omega), hfσ271 162 j_ (by omega), eσ263, dk_up_n (show ¬ (162 = 162 ∧ j_ = i) by omega), hfσ255 162 j_ (by omega), hfσ176 162 j_ (by omega), hfσ166 162 j_ (by omega)], by rw [hfσ295 163 j_ (by omega), eσ284, dk_up_n (show ¬ (163 = 169 ∧ j_ = i) by omega), eσ279, dk_up_n (show ¬ (163 = 163 ∧ j_ = i) by omega), hfσ271 163 j_ (by omega), eσ263, dk_up_n (show ¬ (163 = 162 ∧ j_ = i) by omega), hfσ255 163 j_ (by omega), hfσ176 163 j_ (by omega), hfσ166 163 j_ (by omega)], by rw [hfσ295 169 j_ (by omega), eσ284, dk_up_n (show ¬ (169 = 169 ∧ j_ = i) by omega), eσ279, dk_up_n (show ¬ (169 = 163 ∧ j_ = i) by omega), hfσ271 169 j_ (by omega), eσ263, dk_up_n (show ¬ (169 = 162 ∧ j_ = i) by omega), hfσ255 169 j_ (by omega), hfσ176 169 j_ (by omega), hfσ166 169 j_ (by omega)]⟩) (fun _ => ⟨by rw [← hi, hfσ295 162 i (by omega), eσ284, dk_up_n (show ¬ (162 = 169 ∧ i = i) by omega), eσ279, dk_up_n (show ¬ (162 = 163 ∧ i = i) by omega), hfσ271 162 i (by omega), eσ263, dk_up_s], by rw [← hi, hfσ295 163 i (by omega), eσ284, dk_up_n (show ¬ (163 = 169 ∧ i = i) by omega), eσ279, dk_up_s]; omega⟩), fun a_ q_ => Or.inr (by have x_ := (gi297).1.2.2.1; have t_ := hT.2.2 q_; have y_ := H85.2.2.1; omega)⟩⟩
          · skip
            refine dk_if_eq (tgt := 132) (pc' := 128) hE dX11_readRule_125 (by decide) rfl (fun hc299 => ?_) (fun hc299 => absurd hc299 (by decide))
            refine dk_aload_n (pc' := 133) hE dX11_readRule_132 rfl rfl rfl ?_
            refine gf_11_34 (pc' := 136) (w := 163) hE fl_X11_80 dX11_readRule_133 is_141 rfl rfl ?_
            refine dk_iconst (pc' := 137) hE dX11_readRule_136 (by decide) rfl ?_
            refine dk_aload_n (pc' := 138) hE dX11_readRule_137 rfl rfl rfl ?_
            refine gf_11_41 (pc' := 141) hE fl_X11_374 dX11_readRule_138 is_141 rfl (fun v300 hv300 htv300 hbv300 => ?_)
            have hq300 : v6 = v300 := (show v300 = v6 by rw [hv300, eσ263, dk_up_n (show ¬ (141 = 162 ∧ 41 = i) by omega), hv259]).symm
            subst hq300
            clear htv300 hbv300
            obtain ⟨v301, hv301⟩ : ∃ z : Int, z = 3 * v6 := ⟨_, rfl⟩
            refine dk_imul (pc' := 142) hE dX11_readRule_141 hv301.symm (by omega) rfl ?_
            refine dk_iload_n (pc' := 143) hE dX11_readRule_142 rfl rfl rfl ?_
            obtain ⟨v302, hv302⟩ : ∃ z : Int, z = v301 + 0 := ⟨_, rfl⟩
            refine dk_iadd (pc' := 144) hE dX11_readRule_143 hv302.symm (by omega) rfl ?_
            have hrnv302 : i = v302 := by omega
            subst hrnv302
            refine dk_aload_n (pc' := 145) hE dX11_readRule_144 rfl rfl rfl ?_
            refine gf_11_42 (pc' := 148) hE fl_X11_377 dX11_readRule_145 is_141 rfl (fun v303 hv303 htv303 hbv303 => ?_)
            have hq303 : c = v303 := (show v303 = c by rw [hv303, eσ263, dk_up_n (show ¬ (141 = 162 ∧ 42 = i) by omega), hv262]).symm
            subst hq303
            clear htv303 hbv303
            refine pa_91 (pc' := 149) hE dX11_readRule_148 is_163 (by omega) trivial rfl (fun σ304 eσ304 => ?_)
            have gi305 : QX c r σ176 σ304 := QX_u gi264 (by omega) (by omega) eσ304
            refine dk_aload_n (pc' := 150) hE dX11_readRule_149 rfl rfl rfl ?_
            refine gf_11_40 (pc' := 153) (w := 169) hE fl_X11_98 dX11_readRule_150 is_141 rfl rfl ?_
            refine dk_iconst (pc' := 154) hE dX11_readRule_153 (by decide) rfl ?_
            refine dk_aload_n (pc' := 155) hE dX11_readRule_154 rfl rfl rfl ?_
            refine gf_11_41 (pc' := 158) hE fl_X11_374 dX11_readRule_155 is_141 rfl (fun v306 hv306 htv306 hbv306 => ?_)
            have hq306 : v6 = v306 := (show v306 = v6 by rw [hv306, eσ304, dk_up_n (show ¬ (141 = 163 ∧ 41 = i) by omega), hv300]).symm
            subst hq306
            clear htv306 hbv306
            obtain ⟨v307, hv307⟩ : ∃ z : Int, z = 3 * v6 := ⟨_, rfl⟩
            refine dk_imul (pc' := 159) hE dX11_readRule_158 hv307.symm (by omega) rfl ?_
            refine dk_iload_n (pc' := 160) hE dX11_readRule_159 rfl rfl rfl ?_
            obtain ⟨v308, hv308⟩ : ∃ z : Int, z = v307 + 0 := ⟨_, rfl⟩
            refine dk_iadd (pc' := 161) hE dX11_readRule_160 hv308.symm (by omega) rfl ?_
            have hrnv308 : i = v308 := by omega
            subst hrnv308
            refine dk_iconst (pc' := 162) hE dX11_readRule_161 (by decide) rfl ?_
            refine pa_97 (pc' := 163) hE dX11_readRule_162 is_169 (by omega) (by omega) trivial rfl (fun σ309 eσ309 => ?_)
            have gi310 : QX c r σ176 σ309 := QX_u gi305 (by omega) (by omega) eσ309
            refine dk_aload_n (pc' := 164) hE dX11_readRule_163 rfl rfl rfl ?_
            refine dk_aload_n (pc' := 165) hE dX11_readRule_164 rfl rfl rfl ?_
            refine dk_bipush (pc' := 167) hE dX11_readRule_165 (by decide) rfl ?_
            refine dk_cV (pc' := 170) (as := [(0, 59)]) hE lk_X11_298 (ct_X11_is l G hGd 59) dX11_readRule_167 rfl is_141 rfl (by decide) (Nat.le_of_ble_eq_true rfl) rfl rfl (fun r312 σ311 hr312 hor312 => ?_)
            obtain ⟨v313, rfl, hfσ311, hpr312⟩ := hr312
            have hsσ311 : σ309 = σ311 := (funext (fun k => funext (fun j => hfσ311 k j not_false))).symm
            subst hsσ311
            rcases hpr312 with ⟨rfl, hpr312⟩ | rfl
            · skip
              have hz314 : σ309 141 3 = σ 141 3 := by rw [eσ309, dk_up_n (show ¬ (141 = 169 ∧ 3 = i) by omega), eσ304, dk_up_n (show ¬ (141 = 163 ∧ 3 = i) by omega), eσ263, dk_up_n (show ¬ (141 = 162 ∧ 3 = i) by omega), hfσ255 141 3 (by omega), hfσ176 141 3 (by omega), hfσ166 141 3 (by omega)]
              refine dk_cV (pc' := 173) (as := [(0, 1)]) hE lk_X11_301 (ct_X11_must l G hGd 1) dX11_readRule_170 rfl is_141 rfl (by decide) (Nat.le_of_ble_eq_true rfl) ⟨rfl, (NX_tk (gi310).1), (by omega)⟩ rfl (fun r316 σ315 hr316 hor316 => ?_)
              obtain ⟨rfl, hfσ315, hpr316⟩ := hr316
              have gi317 : QX c r σ176 σ315 := QX_tr gi310 hpr316 (fun k_ j_ h_ => hfσ315 k_ j_ (by omega))
              have hz318 : σ315 141 42 = c := by rw [hfσ315 141 42 (by omega), eσ309, dk_up_n (show ¬ (141 = 169 ∧ 42 = i) by omega), eσ304, dk_up_n (show ¬ (141 = 163 ∧ 42 = i) by omega), hv303]
              exact dk_vret (st := []) hE hR dX11_readRule_173 ⟨rfl, (fun k_ j_ h_ => by rw [hfσ315 k_ j_ (fun w_ => h_ (w_.elim (fun x0_ => Or.inl (x0_)) (fun y0_ => y0_.elim (fun x1_ => Or.inr (Or.inl (x1_))) (fun y1_ => y1_.elim (fun x2_ => Or.inr (Or.inr (Or.inl (x2_)))) (fun y2_ => y2_.elim (fun x3_ => Or.inr (Or.inr (Or.inr (Or.inl (x3_))))) (fun y3_ => y3_.elim (fun x4_ => Or.inr (Or.inr (Or.inr (Or.inr (Or.inl (x4_)))))) (fun y4_ => y4_.elim (fun x5_ => Or.inr (Or.inr (Or.inr (Or.inr (Or.inr (Or.inl (x5_))))))) (fun y5_ => Or.inr (Or.inr (Or.inr (Or.inr (Or.inr (Or.inr (Or.inl (y5_))))))))))))))), eσ309, dk_up_n (show ¬ (k_ = 169 ∧ j_ = i) from fun q_ => h_ (Or.inr (Or.inr (Or.inr (Or.inr (Or.inr (Or.inr (Or.inr (Or.inr (Or.inr (Or.inr (Or.inr (Or.inr (Or.inr (q_.1))))))))))))))), eσ304, dk_up_n (show ¬ (k_ = 163 ∧ j_ = i) from fun q_ => h_ (Or.inr (Or.inr (Or.inr (Or.inr (Or.inr (Or.inr (Or.inr (Or.inr (Or.inr (Or.inr (Or.inr (Or.inr (Or.inl (dk_wr (lo := 162) (hi := 163) q_.1 (by decide)))))))))))))))), eσ263, dk_up_n (show ¬ (k_ = 162 ∧ j_ = i) from fun q_ => h_ (Or.inr (Or.inr (Or.inr (Or.inr (Or.inr (Or.inr (Or.inr (Or.inr (Or.inr (Or.inr (Or.inr (Or.inr (Or.inl (dk_wr (lo := 162) (hi := 163) q_.1 (by decide)))))))))))))))), hfσ255 k_ j_ (fun w_ => h_ (w_.elim (fun x0_ => Or.inl (x0_)) (fun y0_ => y0_.elim (fun x1_ => Or.inr (Or.inl (x1_))) (fun y1_ => y1_.elim (fun x2_ => Or.inr (Or.inr (Or.inl (x2_)))) (fun y2_ => y2_.elim (fun x3_ => Or.inr (Or.inr (Or.inr (Or.inl (x3_))))) (fun y3_ => y3_.elim (fun x4_ => Or.inr (Or.inr (Or.inr (Or.inr (Or.inl (x4_)))))) (fun y4_ => y4_.elim (fun x5_ => Or.inr (Or.inr (Or.inr (Or.inr (Or.inr (Or.inl (x5_))))))) (fun y5_ => Or.inr (Or.inr (Or.inr (Or.inr (Or.inr (Or.inr (Or.inl (y5_))))))))))))))), hfσ176 k_ j_ (fun w_ => h_ (w_.elim (fun x0_ => Or.inr (Or.inr (Or.inl (x0_)))) (fun y0_ => y0_.elim (fun x1_ => Or.inr (Or.inr (Or.inr (Or.inl (x1_))))) (fun y1_ => y1_.elim (fun x2_ => Or.inr (Or.inr (Or.inr (Or.inr (Or.inl (x2_)))))) (fun y2_ => y2_.elim (fun x3_ => Or.inr (Or.inr (Or.inr (Or.inr (Or.inr (Or.inl (x3_))))))) (fun y3_ => Or.inr (Or.inr (Or.inr (Or.inr (Or.inr (Or.inr (Or.inl (y3_))))))))))))), hfσ166 k_ j_ (fun w_ => h_ (w_.elim (fun x0_ => Or.inl (x0_)) (fun y0_ => Or.inr (Or.inl (y0_)))))]), ⟨NX_tr hB.1 (gi317).1, RS_line (n := 0) hRS hc.symm (QX_qx hB hB2 gi317) (by omega) (fun j_ h_ => ⟨by rw [hfσ315 162 j_ (by omega), eσ309, dk_up_n (show ¬ (162 = 169 ∧ j_ = i) by omega), eσ304, dk_up_n (show ¬ (162 = 163 ∧ j_ = i) by omega), eσ263, dk_up_n (show ¬ (162 = 162 ∧ j_ = i) by omega), hfσ255 162 j_ (by omega), hfσ176 162 j_ (by omega), hfσ166 162 j_ (by omega)], by rw [hfσ315 163 j_ (by omega), eσ309, dk_up_n (show ¬ (163 = 169 ∧ j_ = i) by omega), eσ304, dk_up_n (show ¬ (163 = 163 ∧ j_ = i) by omega), eσ263, dk_up_n (show ¬ (163 = 162 ∧ j_ = i) by omega), hfσ255 163 j_ (by omega), hfσ176 163 j_ (by omega), hfσ166 163 j_ (by omega)], by rw [hfσ315 169 j_ (by omega), eσ309, dk_up_n (show ¬ (169 = 169 ∧ j_ = i) by omega), eσ304, dk_up_n (show ¬ (169 = 163 ∧ j_ = i) by omega), eσ263, dk_up_n (show ¬ (169 = 162 ∧ j_ = i) by omega), hfσ255 169 j_ (by omega), hfσ176 169 j_ (by omega), hfσ166 169 j_ (by omega)]⟩) (fun _ => ⟨by rw [← hi, hfσ315 162 i (by omega), eσ309, dk_up_n (show ¬ (162 = 169 ∧ i = i) by omega), eσ304, dk_up_n (show ¬ (162 = 163 ∧ i = i) by omega), eσ263, dk_up_s], by rw [← hi, hfσ315 163 i (by omega), eσ309, dk_up_n (show ¬ (163 = 169 ∧ i = i) by omega), eσ304, dk_up_s]; omega⟩), fun a_ q_ => Or.inr (by have x_ := (gi317).1.2.2.1; have t_ := hT.2.2 q_; have y_ := H85.2.2.1; omega)⟩⟩
            · skip
              have hz319 : σ309 141 3 = σ 141 3 := by rw [eσ309, dk_up_n (show ¬ (141 = 169 ∧ 3 = i) by omega), eσ304, dk_up_n (show ¬ (141 = 163 ∧ 3 = i) by omega), eσ263, dk_up_n (show ¬ (141 = 162 ∧ 3 = i) by omega), hfσ255 141 3 (by omega), hfσ176 141 3 (by omega), hfσ166 141 3 (by omega)]
              refine dk_cV (pc' := 173) (as := [(0, 0)]) hE lk_X11_301 (ct_X11_must l G hGd 0) dX11_readRule_170 rfl is_141 rfl (by decide) (Nat.le_of_ble_eq_true rfl) ⟨rfl, (NX_tk (gi310).1), (by omega)⟩ rfl (fun r321 σ320 hr321 hor321 => ?_)
              obtain ⟨rfl, hfσ320, hpr321⟩ := hr321
              have gi322 : QX c r σ176 σ320 := QX_tr gi310 hpr321 (fun k_ j_ h_ => hfσ320 k_ j_ (by omega))
              have hz323 : σ320 141 42 = c := by rw [hfσ320 141 42 (by omega), eσ309, dk_up_n (show ¬ (141 = 169 ∧ 42 = i) by omega), eσ304, dk_up_n (show ¬ (141 = 163 ∧ 42 = i) by omega), hv303]
              exact dk_vret (st := []) hE hR dX11_readRule_173 ⟨rfl, (fun k_ j_ h_ => by rw [hfσ320 k_ j_ (fun w_ => h_ (w_.elim (fun x0_ => Or.inl (x0_)) (fun y0_ => y0_.elim (fun x1_ => Or.inr (Or.inl (x1_))) (fun y1_ => y1_.elim (fun x2_ => Or.inr (Or.inr (Or.inl (x2_)))) (fun y2_ => y2_.elim (fun x3_ => Or.inr (Or.inr (Or.inr (Or.inl (x3_))))) (fun y3_ => y3_.elim (fun x4_ => Or.inr (Or.inr (Or.inr (Or.inr (Or.inl (x4_)))))) (fun y4_ => y4_.elim (fun x5_ => Or.inr (Or.inr (Or.inr (Or.inr (Or.inr (Or.inl (x5_))))))) (fun y5_ => Or.inr (Or.inr (Or.inr (Or.inr (Or.inr (Or.inr (Or.inl (y5_))))))))))))))), eσ309, dk_up_n (show ¬ (k_ = 169 ∧ j_ = i) from fun q_ => h_ (Or.inr (Or.inr (Or.inr (Or.inr (Or.inr (Or.inr (Or.inr (Or.inr (Or.inr (Or.inr (Or.inr (Or.inr (Or.inr (q_.1))))))))))))))), eσ304, dk_up_n (show ¬ (k_ = 163 ∧ j_ = i) from fun q_ => h_ (Or.inr (Or.inr (Or.inr (Or.inr (Or.inr (Or.inr (Or.inr (Or.inr (Or.inr (Or.inr (Or.inr (Or.inr (Or.inl (dk_wr (lo := 162) (hi := 163) q_.1 (by decide)))))))))))))))), eσ263, dk_up_n (show ¬ (k_ = 162 ∧ j_ = i) from fun q_ => h_ (Or.inr (Or.inr (Or.inr (Or.inr (Or.inr (Or.inr (Or.inr (Or.inr (Or.inr (Or.inr (Or.inr (Or.inr (Or.inl (dk_wr (lo := 162) (hi := 163) q_.1 (by decide)))))))))))))))), hfσ255 k_ j_ (fun w_ => h_ (w_.elim (fun x0_ => Or.inl (x0_)) (fun y0_ => y0_.elim (fun x1_ => Or.inr (Or.inl (x1_))) (fun y1_ => y1_.elim (fun x2_ => Or.inr (Or.inr (Or.inl (x2_)))) (fun y2_ => y2_.elim (fun x3_ => Or.inr (Or.inr (Or.inr (Or.inl (x3_))))) (fun y3_ => y3_.elim (fun x4_ => Or.inr (Or.inr (Or.inr (Or.inr (Or.inl (x4_)))))) (fun y4_ => y4_.elim (fun x5_ => Or.inr (Or.inr (Or.inr (Or.inr (Or.inr (Or.inl (x5_))))))) (fun y5_ => Or.inr (Or.inr (Or.inr (Or.inr (Or.inr (Or.inr (Or.inl (y5_))))))))))))))), hfσ176 k_ j_ (fun w_ => h_ (w_.elim (fun x0_ => Or.inr (Or.inr (Or.inl (x0_)))) (fun y0_ => y0_.elim (fun x1_ => Or.inr (Or.inr (Or.inr (Or.inl (x1_))))) (fun y1_ => y1_.elim (fun x2_ => Or.inr (Or.inr (Or.inr (Or.inr (Or.inl (x2_)))))) (fun y2_ => y2_.elim (fun x3_ => Or.inr (Or.inr (Or.inr (Or.inr (Or.inr (Or.inl (x3_))))))) (fun y3_ => Or.inr (Or.inr (Or.inr (Or.inr (Or.inr (Or.inr (Or.inl (y3_))))))))))))), hfσ166 k_ j_ (fun w_ => h_ (w_.elim (fun x0_ => Or.inl (x0_)) (fun y0_ => Or.inr (Or.inl (y0_)))))]), ⟨NX_tr hB.1 (gi322).1, RS_line (n := 0) hRS hc.symm (QX_qx hB hB2 gi322) (by omega) (fun j_ h_ => ⟨by rw [hfσ320 162 j_ (by omega), eσ309, dk_up_n (show ¬ (162 = 169 ∧ j_ = i) by omega), eσ304, dk_up_n (show ¬ (162 = 163 ∧ j_ = i) by omega), eσ263, dk_up_n (show ¬ (162 = 162 ∧ j_ = i) by omega), hfσ255 162 j_ (by omega), hfσ176 162 j_ (by omega), hfσ166 162 j_ (by omega)], by rw [hfσ320 163 j_ (by omega), eσ309, dk_up_n (show ¬ (163 = 169 ∧ j_ = i) by omega), eσ304, dk_up_n (show ¬ (163 = 163 ∧ j_ = i) by omega), eσ263, dk_up_n (show ¬ (163 = 162 ∧ j_ = i) by omega), hfσ255 163 j_ (by omega), hfσ176 163 j_ (by omega), hfσ166 163 j_ (by omega)], by rw [hfσ320 169 j_ (by omega), eσ309, dk_up_n (show ¬ (169 = 169 ∧ j_ = i) by omega), eσ304, dk_up_n (show ¬ (169 = 163 ∧ j_ = i) by omega), eσ263, dk_up_n (show ¬ (169 = 162 ∧ j_ = i) by omega), hfσ255 169 j_ (by omega), hfσ176 169 j_ (by omega), hfσ166 169 j_ (by omega)]⟩) (fun _ => ⟨by rw [← hi, hfσ320 162 i (by omega), eσ309, dk_up_n (show ¬ (162 = 169 ∧ i = i) by omega), eσ304, dk_up_n (show ¬ (162 = 163 ∧ i = i) by omega), eσ263, dk_up_s], by rw [← hi, hfσ320 163 i (by omega), eσ309, dk_up_n (show ¬ (163 = 169 ∧ i = i) by omega), eσ304, dk_up_s]; omega⟩), fun a_ q_ => Or.inr (by have x_ := (gi322).1.2.2.1; have t_ := hT.2.2 q_; have y_ := H85.2.2.1; omega)⟩⟩
      · skip
        refine dk_if_ne (tgt := 84) (pc' := 83) hE dX11_readRule_80 (by decide) rfl (fun hc324 => absurd hc324 (by decide)) (fun hc324 => ?_)
        have hz325 : σ166 141 42 = c := by rw [hfσ166 141 42 (by omega), hc]
        exact dk_vret (st := []) hE hR dX11_readRule_83 ⟨rfl, (fun k_ j_ h_ => by rw [hfσ166 k_ j_ (fun w_ => h_ (w_.elim (fun x0_ => Or.inl (x0_)) (fun y0_ => Or.inr (Or.inl (y0_)))))]), ⟨(gi168).1, RS_fr hRS (gi168).1 (fun k_ j_ h_ => by rw [hfσ166 k_ j_ (by omega)]), fun a_ q_ => Or.inl (by omega)⟩⟩
  · skip
    refine dk_if_eq (tgt := 14) (pc' := 10) hE dX11_readRule_7 (by decide) rfl (fun hc326 => ?_) (fun hc326 => absurd hc326 (by decide))
    refine dk_aload_n (pc' := 15) hE dX11_readRule_14 rfl rfl rfl ?_
    refine dk_ldc2 (pc' := 18) hE dX11_readRule_15 cs_X11_186 (by decide) rfl ?_
    refine dk_cV (pc' := 21) (as := [(3, 499917087592)]) hE lk_X11_281 (ct_X11_isWord l G hGd 499917087592) dX11_readRule_18 rfl is_141 rfl (by decide) (Nat.le_of_ble_eq_true rfl) rfl rfl (fun r328 σ327 hr328 hor328 => ?_)
    obtain ⟨v329, rfl, hfσ327, hpr328⟩ := hr328
    have hsσ327 : σ = σ327 := (funext (fun k => funext (fun j => hfσ327 k j not_false))).symm
    subst hsσ327
    rcases hpr328 with ⟨rfl, hpr328⟩ | rfl
    · skip
      refine dk_if_eq (tgt := 28) (pc' := 24) hE dX11_readRule_21 (by decide) rfl (fun hc330 => absurd hc330 (by decide)) (fun hc330 => ?_)
      refine dk_iconst (pc' := 25) hE dX11_readRule_24 (by decide) rfl ?_
      refine dk_goto (tgt := 43) hE dX11_readRule_25 (by decide) ?_
      refine dk_istore_n (pc' := 44) (ls' := [(4, 141), (0, 1)]) hE dX11_readRule_43 rfl rfl (by decide) rfl ?_
      refine dk_iload_n (pc' := 45) hE dX11_readRule_44 rfl rfl rfl ?_
      refine dk_if_lt (tgt := 72) (pc' := 48) hE dX11_readRule_45 (by decide) rfl (fun hc331 => absurd hc331 (by decide)) (fun hc331 => ?_)
      refine dk_aload_n (pc' := 49) hE dX11_readRule_48 rfl rfl rfl ?_
      refine gf_11_40 (pc' := 52) (w := 169) hE fl_X11_98 dX11_readRule_49 is_141 rfl rfl ?_
      refine dk_iconst (pc' := 53) hE dX11_readRule_52 (by decide) rfl ?_
      refine dk_aload_n (pc' := 54) hE dX11_readRule_53 rfl rfl rfl ?_
      refine gf_11_41 (pc' := 57) hE fl_X11_374 dX11_readRule_54 is_141 rfl (fun v332 hv332 htv332 hbv332 => ?_)
      obtain ⟨v333, hv333⟩ : ∃ z : Int, z = 3 * v332 := ⟨_, rfl⟩
      refine dk_imul (pc' := 58) hE dX11_readRule_57 hv333.symm (by omega) rfl ?_
      refine dk_iload_n (pc' := 59) hE dX11_readRule_58 rfl rfl rfl ?_
      refine dk_if_ge (tgt := 66) (pc' := 62) hE dX11_readRule_59 (by decide) rfl (fun hc334 => ?_) (fun hc334 => absurd hc334 (by decide))
      refine dk_iload_n (pc' := 67) hE dX11_readRule_66 rfl rfl rfl ?_
      obtain ⟨v335, hv335⟩ : ∃ z : Int, z = v333 + 1 := ⟨_, rfl⟩
      refine dk_iadd (pc' := 68) hE dX11_readRule_67 hv335.symm (by omega) rfl ?_
      refine ga_97 (pc' := 69) hE dX11_readRule_68 is_169 (by omega) rfl (fun v336 hv336 htv336 hbv336 => ?_)
      refine dk_if_eq (tgt := 76) (pc' := 72) hE dX11_readRule_69 (by decide) rfl (fun hc337 => ?_) (fun hc337 => ?_)
      · skip
        refine dk_aload_n (pc' := 77) hE dX11_readRule_76 rfl rfl rfl ?_
        refine dk_cV (pc' := 80) (as := []) hE lk_X11_250 (ct_X11_isGood l G hGd) dX11_readRule_77 rfl is_141 rfl (by decide) (Nat.le_of_ble_eq_true rfl) rfl rfl (fun r339 σ338 hr339 hor339 => ?_)
        obtain ⟨v340, rfl, hfσ338, hpr339⟩ := hr339
        have hsσ338 : σ = σ338 := (funext (fun k => funext (fun j => hfσ338 k j not_false))).symm
        subst hsσ338
        rcases hpr339 with ⟨rfl, hpr339⟩ | ⟨rfl, hpr339⟩
        · skip
          refine dk_if_ne (tgt := 84) (pc' := 83) hE dX11_readRule_80 (by decide) rfl (fun hc341 => ?_) (fun hc341 => absurd hc341 (by decide))
          refine dk_aload_n (pc' := 85) hE dX11_readRule_84 rfl rfl rfl ?_
          refine dk_cV (pc' := 88) (as := []) hE lk_X11_254 (ct_X11_next l G hGd) dX11_readRule_85 rfl is_141 rfl (by decide) (Nat.le_of_ble_eq_true rfl) ⟨rfl, ((NX_tk ((QX_of hT hRS.1 hc)).1).2.1), (by omega)⟩ rfl (fun r343 σ342 hr343 hor343 => ?_)
          obtain ⟨rfl, hfσ342, hpr343⟩ := hr343
          have H85 := hpr343
          have gi344 : QX c r σ σ342 := QX_y (QX_of hT hRS.1 hc) hpr343 (fun k_ j_ h_ => hfσ342 k_ j_ (by omega))
          have hB : QX c r σ σ342 := gi344
          have hB2 : σ342 141 42 = c := by rw [hfσ342 141 42 (by omega)]; exact hc.symm
          have gi345 : QX c r σ342 σ342 := QX_of (NX_tk hB.1) hB.2.1 hB2.symm
          refine dk_iload_n (pc' := 89) hE dX11_readRule_88 rfl rfl rfl ?_
          refine dk_iconst (pc' := 90) hE dX11_readRule_89 (by decide) rfl ?_
          refine dk_icmp_eq (tgt := 104) (pc' := 93) hE dX11_readRule_90 (by decide) rfl (fun hc346 => absurd hc346 (by decide)) (fun hc346 => ?_)
          refine dk_aload_n (pc' := 94) hE dX11_readRule_93 rfl rfl rfl ?_
          refine dk_aload_n (pc' := 95) hE dX11_readRule_94 rfl rfl rfl ?_
          refine dk_ldc2 (pc' := 98) hE dX11_readRule_95 cs_X11_188 (by decide) rfl ?_
          refine dk_cV (pc' := 101) (as := [(3, 2003330414)]) hE lk_X11_281 (ct_X11_isWord l G hGd 2003330414) dX11_readRule_98 rfl is_141 rfl (by decide) (Nat.le_of_ble_eq_true rfl) rfl rfl (fun r348 σ347 hr348 hor348 => ?_)
          obtain ⟨v349, rfl, hfσ347, hpr348⟩ := hr348
          have hsσ347 : σ342 = σ347 := (funext (fun k => funext (fun j => hfσ347 k j not_false))).symm
          subst hsσ347
          rcases hpr348 with ⟨rfl, hpr348⟩ | rfl
          · skip
            have hz350 : σ342 141 3 = σ 141 3 := by rw [hfσ342 141 3 (by omega)]
            refine dk_cV (pc' := 104) (as := [(0, 1)]) hE lk_X11_301 (ct_X11_must l G hGd 1) dX11_readRule_101 rfl is_141 rfl (by decide) (Nat.le_of_ble_eq_true rfl) ⟨rfl, (NX_tk (gi345).1), (by omega)⟩ rfl (fun r352 σ351 hr352 hor352 => ?_)
            obtain ⟨rfl, hfσ351, hpr352⟩ := hr352
            have gi353 : QX c r σ342 σ351 := QX_tr gi345 hpr352 (fun k_ j_ h_ => hfσ351 k_ j_ (by omega))
            obtain ⟨i, hi⟩ : ∃ i : Int, i = 3 * r + 1 := ⟨_, rfl⟩
            have gi354 : QX c r σ342 σ351 := gi353
            refine dk_aload_n (pc' := 105) hE dX11_readRule_104 rfl rfl rfl ?_
            refine gf_11_33 (pc' := 108) (w := 162) hE fl_X11_77 dX11_readRule_105 is_141 rfl rfl ?_
            refine dk_iconst (pc' := 109) hE dX11_readRule_108 (by decide) rfl ?_
            refine dk_aload_n (pc' := 110) hE dX11_readRule_109 rfl rfl rfl ?_
            refine gf_11_41 (pc' := 113) hE fl_X11_374 dX11_readRule_110 is_141 rfl (fun v355 hv355 htv355 hbv355 => ?_)
            have hq355 : v332 = v355 := (show v355 = v332 by rw [hv355, hfσ351 141 41 (by omega), hfσ342 141 41 (by omega), hv332]).symm
            subst hq355
            clear htv355 hbv355
            obtain ⟨v356, hv356⟩ : ∃ z : Int, z = 3 * v332 := ⟨_, rfl⟩
            refine dk_imul (pc' := 114) hE dX11_readRule_113 hv356.symm (by omega) rfl ?_
            refine dk_iload_n (pc' := 115) hE dX11_readRule_114 rfl rfl rfl ?_
            obtain ⟨v357, hv357⟩ : ∃ z : Int, z = v356 + 1 := ⟨_, rfl⟩
            refine dk_iadd (pc' := 116) hE dX11_readRule_115 hv357.symm (by omega) rfl ?_
            have hrnv357 : i = v357 := by omega
            subst hrnv357
            refine dk_aload_n (pc' := 117) hE dX11_readRule_116 rfl rfl rfl ?_
            refine gf_11_42 (pc' := 120) hE fl_X11_377 dX11_readRule_117 is_141 rfl (fun v358 hv358 htv358 hbv358 => ?_)
            have hq358 : c = v358 := (show v358 = c by rw [hv358, hfσ351 141 42 (by omega), hfσ342 141 42 (by omega), hc]).symm
            subst hq358
            clear htv358 hbv358
            refine pa_90 (pc' := 121) hE dX11_readRule_120 is_162 (by omega) trivial rfl (fun σ359 eσ359 => ?_)
            have gi360 : QX c r σ342 σ359 := QX_u gi354 (by omega) (by omega) eσ359
            refine dk_aload_n (pc' := 122) hE dX11_readRule_121 rfl rfl rfl ?_
            refine dk_cV (pc' := 125) (as := []) hE lk_X11_250 (ct_X11_isGood l G hGd) dX11_readRule_122 rfl is_141 rfl (by decide) (Nat.le_of_ble_eq_true rfl) rfl rfl (fun r362 σ361 hr362 hor362 => ?_)
            obtain ⟨v363, rfl, hfσ361, hpr362⟩ := hr362
            have hsσ361 : σ359 = σ361 := (funext (fun k => funext (fun j => hfσ361 k j not_false))).symm
            subst hsσ361
            rcases hpr362 with ⟨rfl, hpr362⟩ | ⟨rfl, hpr362⟩
            · skip
              refine dk_if_eq (tgt := 132) (pc' := 128) hE dX11_readRule_125 (by decide) rfl (fun hc364 => absurd hc364 (by decide)) (fun hc364 => ?_)
              refine dk_aload_n (pc' := 129) hE dX11_readRule_128 rfl rfl rfl ?_
              have hz365 : σ359 141 3 = σ 141 3 := by rw [eσ359, dk_up_n (show ¬ (141 = 162 ∧ 3 = i) by omega), hfσ351 141 3 (by omega), hfσ342 141 3 (by omega)]
              have hz366 : σ359 141 42 = c := by rw [eσ359, dk_up_n (show ¬ (141 = 162 ∧ 42 = i) by omega), hv358]
              refine dk_cV (pc' := 132) (as := []) hE lk_X11_386 (ct_X11_e l G hGd c r) dX11_readRule_129 rfl is_141 rfl (by decide) (Nat.le_of_ble_eq_true rfl) ⟨rfl, (NX_tk (gi360).1), (by omega), ((gi360).2.1), (by omega), (by omega)⟩ rfl (fun r368 σ367 hr368 hor368 => ?_)
              obtain ⟨rfl, hfσ367, hpr368⟩ := hr368
              have hz369 : σ359 141 42 = c := by rw [eσ359, dk_up_n (show ¬ (141 = 162 ∧ 42 = i) by omega), hv358]
              have gi370 : QX c r σ342 σ367 := QX_qx gi360 (by omega) hpr368
              refine dk_aload_n (pc' := 133) hE dX11_readRule_132 rfl rfl rfl ?_
              refine gf_11_34 (pc' := 136) (w := 163) hE fl_X11_80 dX11_readRule_133 is_141 rfl rfl ?_
              refine dk_iconst (pc' := 137) hE dX11_readRule_136 (by decide) rfl ?_
              refine dk_aload_n (pc' := 138) hE dX11_readRule_137 rfl rfl rfl ?_
              refine gf_11_41 (pc' := 141) hE fl_X11_374 dX11_readRule_138 is_141 rfl (fun v371 hv371 htv371 hbv371 => ?_)
              have hq371 : v332 = v371 := (show v371 = v332 by rw [hv371, hfσ367 141 41 (by omega), eσ359, dk_up_n (show ¬ (141 = 162 ∧ 41 = i) by omega), hv355]).symm
              subst hq371
              clear htv371 hbv371
              obtain ⟨v372, hv372⟩ : ∃ z : Int, z = 3 * v332 := ⟨_, rfl⟩
              refine dk_imul (pc' := 142) hE dX11_readRule_141 hv372.symm (by omega) rfl ?_
              refine dk_iload_n (pc' := 143) hE dX11_readRule_142 rfl rfl rfl ?_
              obtain ⟨v373, hv373⟩ : ∃ z : Int, z = v372 + 1 := ⟨_, rfl⟩
              refine dk_iadd (pc' := 144) hE dX11_readRule_143 hv373.symm (by omega) rfl ?_
              have hrnv373 : i = v373 := by omega
              subst hrnv373
              refine dk_aload_n (pc' := 145) hE dX11_readRule_144 rfl rfl rfl ?_
              refine gf_11_42 (pc' := 148) hE fl_X11_377 dX11_readRule_145 is_141 rfl (fun v374 hv374 htv374 hbv374 => ?_)
              refine pa_91 (pc' := 149) hE dX11_readRule_148 is_163 (by omega) trivial rfl (fun σ375 eσ375 => ?_)
              have gi376 : QX c r σ342 σ375 := QX_u gi370 (by omega) (by omega) eσ375
              refine dk_aload_n (pc' := 150) hE dX11_readRule_149 rfl rfl rfl ?_
              refine gf_11_40 (pc' := 153) (w := 169) hE fl_X11_98 dX11_readRule_150 is_141 rfl rfl ?_
              refine dk_iconst (pc' := 154) hE dX11_readRule_153 (by decide) rfl ?_
              refine dk_aload_n (pc' := 155) hE dX11_readRule_154 rfl rfl rfl ?_
              refine gf_11_41 (pc' := 158) hE fl_X11_374 dX11_readRule_155 is_141 rfl (fun v377 hv377 htv377 hbv377 => ?_)
              have hq377 : v332 = v377 := (show v377 = v332 by rw [hv377, eσ375, dk_up_n (show ¬ (141 = 163 ∧ 41 = i) by omega), hv371]).symm
              subst hq377
              clear htv377 hbv377
              obtain ⟨v378, hv378⟩ : ∃ z : Int, z = 3 * v332 := ⟨_, rfl⟩
              refine dk_imul (pc' := 159) hE dX11_readRule_158 hv378.symm (by omega) rfl ?_
              refine dk_iload_n (pc' := 160) hE dX11_readRule_159 rfl rfl rfl ?_
              obtain ⟨v379, hv379⟩ : ∃ z : Int, z = v378 + 1 := ⟨_, rfl⟩
              refine dk_iadd (pc' := 161) hE dX11_readRule_160 hv379.symm (by omega) rfl ?_
              have hrnv379 : i = v379 := by omega
              subst hrnv379
              refine dk_iconst (pc' := 162) hE dX11_readRule_161 (by decide) rfl ?_
              refine pa_97 (pc' := 163) hE dX11_readRule_162 is_169 (by omega) (by omega) trivial rfl (fun σ380 eσ380 => ?_)
              have gi381 : QX c r σ342 σ380 := QX_u gi376 (by omega) (by omega) eσ380
              refine dk_aload_n (pc' := 164) hE dX11_readRule_163 rfl rfl rfl ?_
              refine dk_aload_n (pc' := 165) hE dX11_readRule_164 rfl rfl rfl ?_
              refine dk_bipush (pc' := 167) hE dX11_readRule_165 (by decide) rfl ?_
              refine dk_cV (pc' := 170) (as := [(0, 59)]) hE lk_X11_298 (ct_X11_is l G hGd 59) dX11_readRule_167 rfl is_141 rfl (by decide) (Nat.le_of_ble_eq_true rfl) rfl rfl (fun r383 σ382 hr383 hor383 => ?_)
              obtain ⟨v384, rfl, hfσ382, hpr383⟩ := hr383
              have hsσ382 : σ380 = σ382 := (funext (fun k => funext (fun j => hfσ382 k j not_false))).symm
              subst hsσ382
              rcases hpr383 with ⟨rfl, hpr383⟩ | rfl
              · skip
                have hz385 : σ380 141 3 = σ 141 3 := by rw [eσ380, dk_up_n (show ¬ (141 = 169 ∧ 3 = i) by omega), eσ375, dk_up_n (show ¬ (141 = 163 ∧ 3 = i) by omega), hfσ367 141 3 (by omega), eσ359, dk_up_n (show ¬ (141 = 162 ∧ 3 = i) by omega), hfσ351 141 3 (by omega), hfσ342 141 3 (by omega)]
                refine dk_cV (pc' := 173) (as := [(0, 1)]) hE lk_X11_301 (ct_X11_must l G hGd 1) dX11_readRule_170 rfl is_141 rfl (by decide) (Nat.le_of_ble_eq_true rfl) ⟨rfl, (NX_tk (gi381).1), (by omega)⟩ rfl (fun r387 σ386 hr387 hor387 => ?_)
                obtain ⟨rfl, hfσ386, hpr387⟩ := hr387
                have gi388 : QX c r σ342 σ386 := QX_tr gi381 hpr387 (fun k_ j_ h_ => hfσ386 k_ j_ (by omega))
                have hz389 : σ386 141 42 = v374 := by rw [hfσ386 141 42 (by omega), eσ380, dk_up_n (show ¬ (141 = 169 ∧ 42 = i) by omega), eσ375, dk_up_n (show ¬ (141 = 163 ∧ 42 = i) by omega), hv374]
                exact dk_vret (st := []) hE hR dX11_readRule_173 ⟨rfl, (fun k_ j_ h_ => by rw [hfσ386 k_ j_ (fun w_ => h_ (w_.elim (fun x0_ => Or.inl (x0_)) (fun y0_ => y0_.elim (fun x1_ => Or.inr (Or.inl (x1_))) (fun y1_ => y1_.elim (fun x2_ => Or.inr (Or.inr (Or.inl (x2_)))) (fun y2_ => y2_.elim (fun x3_ => Or.inr (Or.inr (Or.inr (Or.inl (x3_))))) (fun y3_ => y3_.elim (fun x4_ => Or.inr (Or.inr (Or.inr (Or.inr (Or.inl (x4_)))))) (fun y4_ => y4_.elim (fun x5_ => Or.inr (Or.inr (Or.inr (Or.inr (Or.inr (Or.inl (x5_))))))) (fun y5_ => Or.inr (Or.inr (Or.inr (Or.inr (Or.inr (Or.inr (Or.inl (y5_))))))))))))))), eσ380, dk_up_n (show ¬ (k_ = 169 ∧ j_ = i) from fun q_ => h_ (Or.inr (Or.inr (Or.inr (Or.inr (Or.inr (Or.inr (Or.inr (Or.inr (Or.inr (Or.inr (Or.inr (Or.inr (Or.inr (q_.1))))))))))))))), eσ375, dk_up_n (show ¬ (k_ = 163 ∧ j_ = i) from fun q_ => h_ (Or.inr (Or.inr (Or.inr (Or.inr (Or.inr (Or.inr (Or.inr (Or.inr (Or.inr (Or.inr (Or.inr (Or.inr (Or.inl (dk_wr (lo := 162) (hi := 163) q_.1 (by decide)))))))))))))))), hfσ367 k_ j_ (fun w_ => h_ (w_.elim (fun x0_ => Or.inl (x0_)) (fun y0_ => y0_.elim (fun x1_ => Or.inr (Or.inl (x1_))) (fun y1_ => y1_.elim (fun x2_ => Or.inr (Or.inr (Or.inl (x2_)))) (fun y2_ => y2_.elim (fun x3_ => Or.inr (Or.inr (Or.inr (Or.inl (x3_))))) (fun y3_ => y3_.elim (fun x4_ => Or.inr (Or.inr (Or.inr (Or.inr (Or.inl (x4_)))))) (fun y4_ => y4_.elim (fun x5_ => Or.inr (Or.inr (Or.inr (Or.inr (Or.inr (Or.inl (x5_))))))) (fun y5_ => y5_.elim (fun x6_ => Or.inr (Or.inr (Or.inr (Or.inr (Or.inr (Or.inr (Or.inl (x6_)))))))) (fun y6_ => y6_.elim (fun x7_ => Or.inr (Or.inr (Or.inr (Or.inr (Or.inr (Or.inr (Or.inr (Or.inl (x7_))))))))) (fun y7_ => y7_.elim (fun x8_ => Or.inr (Or.inr (Or.inr (Or.inr (Or.inr (Or.inr (Or.inr (Or.inr (Or.inl (x8_)))))))))) (fun y8_ => y8_.elim (fun x9_ => Or.inr (Or.inr (Or.inr (Or.inr (Or.inr (Or.inr (Or.inr (Or.inr (Or.inr (Or.inl (x9_))))))))))) (fun y9_ => y9_.elim (fun x10_ => Or.inr (Or.inr (Or.inr (Or.inr (Or.inr (Or.inr (Or.inr (Or.inr (Or.inr (Or.inr (Or.inl (x10_)))))))))))) (fun y10_ => Or.inr (Or.inr (Or.inr (Or.inr (Or.inr (Or.inr (Or.inr (Or.inr (Or.inr (Or.inr (Or.inr (Or.inl (y10_))))))))))))))))))))))))), eσ359, dk_up_n (show ¬ (k_ = 162 ∧ j_ = i) from fun q_ => h_ (Or.inr (Or.inr (Or.inr (Or.inr (Or.inr (Or.inr (Or.inr (Or.inr (Or.inr (Or.inr (Or.inr (Or.inr (Or.inl (dk_wr (lo := 162) (hi := 163) q_.1 (by decide)))))))))))))))), hfσ351 k_ j_ (fun w_ => h_ (w_.elim (fun x0_ => Or.inl (x0_)) (fun y0_ => y0_.elim (fun x1_ => Or.inr (Or.inl (x1_))) (fun y1_ => y1_.elim (fun x2_ => Or.inr (Or.inr (Or.inl (x2_)))) (fun y2_ => y2_.elim (fun x3_ => Or.inr (Or.inr (Or.inr (Or.inl (x3_))))) (fun y3_ => y3_.elim (fun x4_ => Or.inr (Or.inr (Or.inr (Or.inr (Or.inl (x4_)))))) (fun y4_ => y4_.elim (fun x5_ => Or.inr (Or.inr (Or.inr (Or.inr (Or.inr (Or.inl (x5_))))))) (fun y5_ => Or.inr (Or.inr (Or.inr (Or.inr (Or.inr (Or.inr (Or.inl (y5_))))))))))))))), hfσ342 k_ j_ (fun w_ => h_ (w_.elim (fun x0_ => Or.inr (Or.inr (Or.inl (x0_)))) (fun y0_ => y0_.elim (fun x1_ => Or.inr (Or.inr (Or.inr (Or.inl (x1_))))) (fun y1_ => y1_.elim (fun x2_ => Or.inr (Or.inr (Or.inr (Or.inr (Or.inl (x2_)))))) (fun y2_ => y2_.elim (fun x3_ => Or.inr (Or.inr (Or.inr (Or.inr (Or.inr (Or.inl (x3_))))))) (fun y3_ => Or.inr (Or.inr (Or.inr (Or.inr (Or.inr (Or.inr (Or.inl (y3_)))))))))))))]), ⟨NX_tr hB.1 (gi388).1, RS_line (n := 1) hRS hc.symm (QX_qx hB hB2 gi388) (by omega) (fun j_ h_ => ⟨by rw [hfσ386 162 j_ (by omega), eσ380, dk_up_n (show ¬ (162 = 169 ∧ j_ = i) by omega), eσ375, dk_up_n (show ¬ (162 = 163 ∧ j_ = i) by omega), hfσ367 162 j_ (by omega), eσ359, dk_up_n (show ¬ (162 = 162 ∧ j_ = i) by omega), hfσ351 162 j_ (by omega), hfσ342 162 j_ (by omega)], by rw [hfσ386 163 j_ (by omega), eσ380, dk_up_n (show ¬ (163 = 169 ∧ j_ = i) by omega), eσ375, dk_up_n (show ¬ (163 = 163 ∧ j_ = i) by omega), hfσ367 163 j_ (by omega), eσ359, dk_up_n (show ¬ (163 = 162 ∧ j_ = i) by omega), hfσ351 163 j_ (by omega), hfσ342 163 j_ (by omega)], by rw [hfσ386 169 j_ (by omega), eσ380, dk_up_n (show ¬ (169 = 169 ∧ j_ = i) by omega), eσ375, dk_up_n (show ¬ (169 = 163 ∧ j_ = i) by omega), hfσ367 169 j_ (by omega), eσ359, dk_up_n (show ¬ (169 = 162 ∧ j_ = i) by omega), hfσ351 169 j_ (by omega), hfσ342 169 j_ (by omega)]⟩) (fun _ => ⟨by rw [← hi, hfσ386 162 i (by omega), eσ380, dk_up_n (show ¬ (162 = 169 ∧ i = i) by omega), eσ375, dk_up_n (show ¬ (162 = 163 ∧ i = i) by omega), hfσ367 162 i (by omega), eσ359, dk_up_s], by rw [← hi, hfσ386 163 i (by omega), eσ380, dk_up_n (show ¬ (163 = 169 ∧ i = i) by omega), eσ375, dk_up_s]; omega⟩), fun a_ q_ => Or.inr (by have x_ := (gi388).1.2.2.1; have t_ := hT.2.2 q_; have y_ := H85.2.2.1; omega)⟩⟩
              · skip
                have hz390 : σ380 141 3 = σ 141 3 := by rw [eσ380, dk_up_n (show ¬ (141 = 169 ∧ 3 = i) by omega), eσ375, dk_up_n (show ¬ (141 = 163 ∧ 3 = i) by omega), hfσ367 141 3 (by omega), eσ359, dk_up_n (show ¬ (141 = 162 ∧ 3 = i) by omega), hfσ351 141 3 (by omega), hfσ342 141 3 (by omega)]
                refine dk_cV (pc' := 173) (as := [(0, 0)]) hE lk_X11_301 (ct_X11_must l G hGd 0) dX11_readRule_170 rfl is_141 rfl (by decide) (Nat.le_of_ble_eq_true rfl) ⟨rfl, (NX_tk (gi381).1), (by omega)⟩ rfl (fun r392 σ391 hr392 hor392 => ?_)
                obtain ⟨rfl, hfσ391, hpr392⟩ := hr392
                have gi393 : QX c r σ342 σ391 := QX_tr gi381 hpr392 (fun k_ j_ h_ => hfσ391 k_ j_ (by omega))
                have hz394 : σ391 141 42 = v374 := by rw [hfσ391 141 42 (by omega), eσ380, dk_up_n (show ¬ (141 = 169 ∧ 42 = i) by omega), eσ375, dk_up_n (show ¬ (141 = 163 ∧ 42 = i) by omega), hv374]
                exact dk_vret (st := []) hE hR dX11_readRule_173 ⟨rfl, (fun k_ j_ h_ => by rw [hfσ391 k_ j_ (fun w_ => h_ (w_.elim (fun x0_ => Or.inl (x0_)) (fun y0_ => y0_.elim (fun x1_ => Or.inr (Or.inl (x1_))) (fun y1_ => y1_.elim (fun x2_ => Or.inr (Or.inr (Or.inl (x2_)))) (fun y2_ => y2_.elim (fun x3_ => Or.inr (Or.inr (Or.inr (Or.inl (x3_))))) (fun y3_ => y3_.elim (fun x4_ => Or.inr (Or.inr (Or.inr (Or.inr (Or.inl (x4_)))))) (fun y4_ => y4_.elim (fun x5_ => Or.inr (Or.inr (Or.inr (Or.inr (Or.inr (Or.inl (x5_))))))) (fun y5_ => Or.inr (Or.inr (Or.inr (Or.inr (Or.inr (Or.inr (Or.inl (y5_))))))))))))))), eσ380, dk_up_n (show ¬ (k_ = 169 ∧ j_ = i) from fun q_ => h_ (Or.inr (Or.inr (Or.inr (Or.inr (Or.inr (Or.inr (Or.inr (Or.inr (Or.inr (Or.inr (Or.inr (Or.inr (Or.inr (q_.1))))))))))))))), eσ375, dk_up_n (show ¬ (k_ = 163 ∧ j_ = i) from fun q_ => h_ (Or.inr (Or.inr (Or.inr (Or.inr (Or.inr (Or.inr (Or.inr (Or.inr (Or.inr (Or.inr (Or.inr (Or.inr (Or.inl (dk_wr (lo := 162) (hi := 163) q_.1 (by decide)))))))))))))))), hfσ367 k_ j_ (fun w_ => h_ (w_.elim (fun x0_ => Or.inl (x0_)) (fun y0_ => y0_.elim (fun x1_ => Or.inr (Or.inl (x1_))) (fun y1_ => y1_.elim (fun x2_ => Or.inr (Or.inr (Or.inl (x2_)))) (fun y2_ => y2_.elim (fun x3_ => Or.inr (Or.inr (Or.inr (Or.inl (x3_))))) (fun y3_ => y3_.elim (fun x4_ => Or.inr (Or.inr (Or.inr (Or.inr (Or.inl (x4_)))))) (fun y4_ => y4_.elim (fun x5_ => Or.inr (Or.inr (Or.inr (Or.inr (Or.inr (Or.inl (x5_))))))) (fun y5_ => y5_.elim (fun x6_ => Or.inr (Or.inr (Or.inr (Or.inr (Or.inr (Or.inr (Or.inl (x6_)))))))) (fun y6_ => y6_.elim (fun x7_ => Or.inr (Or.inr (Or.inr (Or.inr (Or.inr (Or.inr (Or.inr (Or.inl (x7_))))))))) (fun y7_ => y7_.elim (fun x8_ => Or.inr (Or.inr (Or.inr (Or.inr (Or.inr (Or.inr (Or.inr (Or.inr (Or.inl (x8_)))))))))) (fun y8_ => y8_.elim (fun x9_ => Or.inr (Or.inr (Or.inr (Or.inr (Or.inr (Or.inr (Or.inr (Or.inr (Or.inr (Or.inl (x9_))))))))))) (fun y9_ => y9_.elim (fun x10_ => Or.inr (Or.inr (Or.inr (Or.inr (Or.inr (Or.inr (Or.inr (Or.inr (Or.inr (Or.inr (Or.inl (x10_)))))))))))) (fun y10_ => Or.inr (Or.inr (Or.inr (Or.inr (Or.inr (Or.inr (Or.inr (Or.inr (Or.inr (Or.inr (Or.inr (Or.inl (y10_))))))))))))))))))))))))), eσ359, dk_up_n (show ¬ (k_ = 162 ∧ j_ = i) from fun q_ => h_ (Or.inr (Or.inr (Or.inr (Or.inr (Or.inr (Or.inr (Or.inr (Or.inr (Or.inr (Or.inr (Or.inr (Or.inr (Or.inl (dk_wr (lo := 162) (hi := 163) q_.1 (by decide)))))))))))))))), hfσ351 k_ j_ (fun w_ => h_ (w_.elim (fun x0_ => Or.inl (x0_)) (fun y0_ => y0_.elim (fun x1_ => Or.inr (Or.inl (x1_))) (fun y1_ => y1_.elim (fun x2_ => Or.inr (Or.inr (Or.inl (x2_)))) (fun y2_ => y2_.elim (fun x3_ => Or.inr (Or.inr (Or.inr (Or.inl (x3_))))) (fun y3_ => y3_.elim (fun x4_ => Or.inr (Or.inr (Or.inr (Or.inr (Or.inl (x4_)))))) (fun y4_ => y4_.elim (fun x5_ => Or.inr (Or.inr (Or.inr (Or.inr (Or.inr (Or.inl (x5_))))))) (fun y5_ => Or.inr (Or.inr (Or.inr (Or.inr (Or.inr (Or.inr (Or.inl (y5_))))))))))))))), hfσ342 k_ j_ (fun w_ => h_ (w_.elim (fun x0_ => Or.inr (Or.inr (Or.inl (x0_)))) (fun y0_ => y0_.elim (fun x1_ => Or.inr (Or.inr (Or.inr (Or.inl (x1_))))) (fun y1_ => y1_.elim (fun x2_ => Or.inr (Or.inr (Or.inr (Or.inr (Or.inl (x2_)))))) (fun y2_ => y2_.elim (fun x3_ => Or.inr (Or.inr (Or.inr (Or.inr (Or.inr (Or.inl (x3_))))))) (fun y3_ => Or.inr (Or.inr (Or.inr (Or.inr (Or.inr (Or.inr (Or.inl (y3_)))))))))))))]), ⟨NX_tr hB.1 (gi393).1, RS_line (n := 1) hRS hc.symm (QX_qx hB hB2 gi393) (by omega) (fun j_ h_ => ⟨by rw [hfσ391 162 j_ (by omega), eσ380, dk_up_n (show ¬ (162 = 169 ∧ j_ = i) by omega), eσ375, dk_up_n (show ¬ (162 = 163 ∧ j_ = i) by omega), hfσ367 162 j_ (by omega), eσ359, dk_up_n (show ¬ (162 = 162 ∧ j_ = i) by omega), hfσ351 162 j_ (by omega), hfσ342 162 j_ (by omega)], by rw [hfσ391 163 j_ (by omega), eσ380, dk_up_n (show ¬ (163 = 169 ∧ j_ = i) by omega), eσ375, dk_up_n (show ¬ (163 = 163 ∧ j_ = i) by omega), hfσ367 163 j_ (by omega), eσ359, dk_up_n (show ¬ (163 = 162 ∧ j_ = i) by omega), hfσ351 163 j_ (by omega), hfσ342 163 j_ (by omega)], by rw [hfσ391 169 j_ (by omega), eσ380, dk_up_n (show ¬ (169 = 169 ∧ j_ = i) by omega), eσ375, dk_up_n (show ¬ (169 = 163 ∧ j_ = i) by omega), hfσ367 169 j_ (by omega), eσ359, dk_up_n (show ¬ (169 = 162 ∧ j_ = i) by omega), hfσ351 169 j_ (by omega), hfσ342 169 j_ (by omega)]⟩) (fun _ => ⟨by rw [← hi, hfσ391 162 i (by omega), eσ380, dk_up_n (show ¬ (162 = 169 ∧ i = i) by omega), eσ375, dk_up_n (show ¬ (162 = 163 ∧ i = i) by omega), hfσ367 162 i (by omega), eσ359, dk_up_s], by rw [← hi, hfσ391 163 i (by omega), eσ380, dk_up_n (show ¬ (163 = 169 ∧ i = i) by omega), eσ375, dk_up_s]; omega⟩), fun a_ q_ => Or.inr (by have x_ := (gi393).1.2.2.1; have t_ := hT.2.2 q_; have y_ := H85.2.2.1; omega)⟩⟩
            · skip
              refine dk_if_eq (tgt := 132) (pc' := 128) hE dX11_readRule_125 (by decide) rfl (fun hc395 => ?_) (fun hc395 => absurd hc395 (by decide))
              refine dk_aload_n (pc' := 133) hE dX11_readRule_132 rfl rfl rfl ?_
              refine gf_11_34 (pc' := 136) (w := 163) hE fl_X11_80 dX11_readRule_133 is_141 rfl rfl ?_
              refine dk_iconst (pc' := 137) hE dX11_readRule_136 (by decide) rfl ?_
              refine dk_aload_n (pc' := 138) hE dX11_readRule_137 rfl rfl rfl ?_
              refine gf_11_41 (pc' := 141) hE fl_X11_374 dX11_readRule_138 is_141 rfl (fun v396 hv396 htv396 hbv396 => ?_)
              have hq396 : v332 = v396 := (show v396 = v332 by rw [hv396, eσ359, dk_up_n (show ¬ (141 = 162 ∧ 41 = i) by omega), hv355]).symm
              subst hq396
              clear htv396 hbv396
              obtain ⟨v397, hv397⟩ : ∃ z : Int, z = 3 * v332 := ⟨_, rfl⟩
              refine dk_imul (pc' := 142) hE dX11_readRule_141 hv397.symm (by omega) rfl ?_
              refine dk_iload_n (pc' := 143) hE dX11_readRule_142 rfl rfl rfl ?_
              obtain ⟨v398, hv398⟩ : ∃ z : Int, z = v397 + 1 := ⟨_, rfl⟩
              refine dk_iadd (pc' := 144) hE dX11_readRule_143 hv398.symm (by omega) rfl ?_
              have hrnv398 : i = v398 := by omega
              subst hrnv398
              refine dk_aload_n (pc' := 145) hE dX11_readRule_144 rfl rfl rfl ?_
              refine gf_11_42 (pc' := 148) hE fl_X11_377 dX11_readRule_145 is_141 rfl (fun v399 hv399 htv399 hbv399 => ?_)
              have hq399 : c = v399 := (show v399 = c by rw [hv399, eσ359, dk_up_n (show ¬ (141 = 162 ∧ 42 = i) by omega), hv358]).symm
              subst hq399
              clear htv399 hbv399
              refine pa_91 (pc' := 149) hE dX11_readRule_148 is_163 (by omega) trivial rfl (fun σ400 eσ400 => ?_)
              have gi401 : QX c r σ342 σ400 := QX_u gi360 (by omega) (by omega) eσ400
              refine dk_aload_n (pc' := 150) hE dX11_readRule_149 rfl rfl rfl ?_
              refine gf_11_40 (pc' := 153) (w := 169) hE fl_X11_98 dX11_readRule_150 is_141 rfl rfl ?_
              refine dk_iconst (pc' := 154) hE dX11_readRule_153 (by decide) rfl ?_
              refine dk_aload_n (pc' := 155) hE dX11_readRule_154 rfl rfl rfl ?_
              refine gf_11_41 (pc' := 158) hE fl_X11_374 dX11_readRule_155 is_141 rfl (fun v402 hv402 htv402 hbv402 => ?_)
              have hq402 : v332 = v402 := (show v402 = v332 by rw [hv402, eσ400, dk_up_n (show ¬ (141 = 163 ∧ 41 = i) by omega), hv396]).symm
              subst hq402
              clear htv402 hbv402
              obtain ⟨v403, hv403⟩ : ∃ z : Int, z = 3 * v332 := ⟨_, rfl⟩
              refine dk_imul (pc' := 159) hE dX11_readRule_158 hv403.symm (by omega) rfl ?_
              refine dk_iload_n (pc' := 160) hE dX11_readRule_159 rfl rfl rfl ?_
              obtain ⟨v404, hv404⟩ : ∃ z : Int, z = v403 + 1 := ⟨_, rfl⟩
              refine dk_iadd (pc' := 161) hE dX11_readRule_160 hv404.symm (by omega) rfl ?_
              have hrnv404 : i = v404 := by omega
              subst hrnv404
              refine dk_iconst (pc' := 162) hE dX11_readRule_161 (by decide) rfl ?_
              refine pa_97 (pc' := 163) hE dX11_readRule_162 is_169 (by omega) (by omega) trivial rfl (fun σ405 eσ405 => ?_)
              have gi406 : QX c r σ342 σ405 := QX_u gi401 (by omega) (by omega) eσ405
              refine dk_aload_n (pc' := 164) hE dX11_readRule_163 rfl rfl rfl ?_
              refine dk_aload_n (pc' := 165) hE dX11_readRule_164 rfl rfl rfl ?_
              refine dk_bipush (pc' := 167) hE dX11_readRule_165 (by decide) rfl ?_
              refine dk_cV (pc' := 170) (as := [(0, 59)]) hE lk_X11_298 (ct_X11_is l G hGd 59) dX11_readRule_167 rfl is_141 rfl (by decide) (Nat.le_of_ble_eq_true rfl) rfl rfl (fun r408 σ407 hr408 hor408 => ?_)
              obtain ⟨v409, rfl, hfσ407, hpr408⟩ := hr408
              have hsσ407 : σ405 = σ407 := (funext (fun k => funext (fun j => hfσ407 k j not_false))).symm
              subst hsσ407
              rcases hpr408 with ⟨rfl, hpr408⟩ | rfl
              · skip
                have hz410 : σ405 141 3 = σ 141 3 := by rw [eσ405, dk_up_n (show ¬ (141 = 169 ∧ 3 = i) by omega), eσ400, dk_up_n (show ¬ (141 = 163 ∧ 3 = i) by omega), eσ359, dk_up_n (show ¬ (141 = 162 ∧ 3 = i) by omega), hfσ351 141 3 (by omega), hfσ342 141 3 (by omega)]
                refine dk_cV (pc' := 173) (as := [(0, 1)]) hE lk_X11_301 (ct_X11_must l G hGd 1) dX11_readRule_170 rfl is_141 rfl (by decide) (Nat.le_of_ble_eq_true rfl) ⟨rfl, (NX_tk (gi406).1), (by omega)⟩ rfl (fun r412 σ411 hr412 hor412 => ?_)
                obtain ⟨rfl, hfσ411, hpr412⟩ := hr412
                have gi413 : QX c r σ342 σ411 := QX_tr gi406 hpr412 (fun k_ j_ h_ => hfσ411 k_ j_ (by omega))
                have hz414 : σ411 141 42 = c := by rw [hfσ411 141 42 (by omega), eσ405, dk_up_n (show ¬ (141 = 169 ∧ 42 = i) by omega), eσ400, dk_up_n (show ¬ (141 = 163 ∧ 42 = i) by omega), hv399]
                exact dk_vret (st := []) hE hR dX11_readRule_173 ⟨rfl, (fun k_ j_ h_ => by rw [hfσ411 k_ j_ (fun w_ => h_ (w_.elim (fun x0_ => Or.inl (x0_)) (fun y0_ => y0_.elim (fun x1_ => Or.inr (Or.inl (x1_))) (fun y1_ => y1_.elim (fun x2_ => Or.inr (Or.inr (Or.inl (x2_)))) (fun y2_ => y2_.elim (fun x3_ => Or.inr (Or.inr (Or.inr (Or.inl (x3_))))) (fun y3_ => y3_.elim (fun x4_ => Or.inr (Or.inr (Or.inr (Or.inr (Or.inl (x4_)))))) (fun y4_ => y4_.elim (fun x5_ => Or.inr (Or.inr (Or.inr (Or.inr (Or.inr (Or.inl (x5_))))))) (fun y5_ => Or.inr (Or.inr (Or.inr (Or.inr (Or.inr (Or.inr (Or.inl (y5_))))))))))))))), eσ405, dk_up_n (show ¬ (k_ = 169 ∧ j_ = i) from fun q_ => h_ (Or.inr (Or.inr (Or.inr (Or.inr (Or.inr (Or.inr (Or.inr (Or.inr (Or.inr (Or.inr (Or.inr (Or.inr (Or.inr (q_.1))))))))))))))), eσ400, dk_up_n (show ¬ (k_ = 163 ∧ j_ = i) from fun q_ => h_ (Or.inr (Or.inr (Or.inr (Or.inr (Or.inr (Or.inr (Or.inr (Or.inr (Or.inr (Or.inr (Or.inr (Or.inr (Or.inl (dk_wr (lo := 162) (hi := 163) q_.1 (by decide)))))))))))))))), eσ359, dk_up_n (show ¬ (k_ = 162 ∧ j_ = i) from fun q_ => h_ (Or.inr (Or.inr (Or.inr (Or.inr (Or.inr (Or.inr (Or.inr (Or.inr (Or.inr (Or.inr (Or.inr (Or.inr (Or.inl (dk_wr (lo := 162) (hi := 163) q_.1 (by decide)))))))))))))))), hfσ351 k_ j_ (fun w_ => h_ (w_.elim (fun x0_ => Or.inl (x0_)) (fun y0_ => y0_.elim (fun x1_ => Or.inr (Or.inl (x1_))) (fun y1_ => y1_.elim (fun x2_ => Or.inr (Or.inr (Or.inl (x2_)))) (fun y2_ => y2_.elim (fun x3_ => Or.inr (Or.inr (Or.inr (Or.inl (x3_))))) (fun y3_ => y3_.elim (fun x4_ => Or.inr (Or.inr (Or.inr (Or.inr (Or.inl (x4_)))))) (fun y4_ => y4_.elim (fun x5_ => Or.inr (Or.inr (Or.inr (Or.inr (Or.inr (Or.inl (x5_))))))) (fun y5_ => Or.inr (Or.inr (Or.inr (Or.inr (Or.inr (Or.inr (Or.inl (y5_))))))))))))))), hfσ342 k_ j_ (fun w_ => h_ (w_.elim (fun x0_ => Or.inr (Or.inr (Or.inl (x0_)))) (fun y0_ => y0_.elim (fun x1_ => Or.inr (Or.inr (Or.inr (Or.inl (x1_))))) (fun y1_ => y1_.elim (fun x2_ => Or.inr (Or.inr (Or.inr (Or.inr (Or.inl (x2_)))))) (fun y2_ => y2_.elim (fun x3_ => Or.inr (Or.inr (Or.inr (Or.inr (Or.inr (Or.inl (x3_))))))) (fun y3_ => Or.inr (Or.inr (Or.inr (Or.inr (Or.inr (Or.inr (Or.inl (y3_)))))))))))))]), ⟨NX_tr hB.1 (gi413).1, RS_line (n := 1) hRS hc.symm (QX_qx hB hB2 gi413) (by omega) (fun j_ h_ => ⟨by rw [hfσ411 162 j_ (by omega), eσ405, dk_up_n (show ¬ (162 = 169 ∧ j_ = i) by omega), eσ400, dk_up_n (show ¬ (162 = 163 ∧ j_ = i) by omega), eσ359, dk_up_n (show ¬ (162 = 162 ∧ j_ = i) by omega), hfσ351 162 j_ (by omega), hfσ342 162 j_ (by omega)], by rw [hfσ411 163 j_ (by omega), eσ405, dk_up_n (show ¬ (163 = 169 ∧ j_ = i) by omega), eσ400, dk_up_n (show ¬ (163 = 163 ∧ j_ = i) by omega), eσ359, dk_up_n (show ¬ (163 = 162 ∧ j_ = i) by omega), hfσ351 163 j_ (by omega), hfσ342 163 j_ (by omega)], by rw [hfσ411 169 j_ (by omega), eσ405, dk_up_n (show ¬ (169 = 169 ∧ j_ = i) by omega), eσ400, dk_up_n (show ¬ (169 = 163 ∧ j_ = i) by omega), eσ359, dk_up_n (show ¬ (169 = 162 ∧ j_ = i) by omega), hfσ351 169 j_ (by omega), hfσ342 169 j_ (by omega)]⟩) (fun _ => ⟨by rw [← hi, hfσ411 162 i (by omega), eσ405, dk_up_n (show ¬ (162 = 169 ∧ i = i) by omega), eσ400, dk_up_n (show ¬ (162 = 163 ∧ i = i) by omega), eσ359, dk_up_s], by rw [← hi, hfσ411 163 i (by omega), eσ405, dk_up_n (show ¬ (163 = 169 ∧ i = i) by omega), eσ400, dk_up_s]; omega⟩), fun a_ q_ => Or.inr (by have x_ := (gi413).1.2.2.1; have t_ := hT.2.2 q_; have y_ := H85.2.2.1; omega)⟩⟩
              · skip
                have hz415 : σ405 141 3 = σ 141 3 := by rw [eσ405, dk_up_n (show ¬ (141 = 169 ∧ 3 = i) by omega), eσ400, dk_up_n (show ¬ (141 = 163 ∧ 3 = i) by omega), eσ359, dk_up_n (show ¬ (141 = 162 ∧ 3 = i) by omega), hfσ351 141 3 (by omega), hfσ342 141 3 (by omega)]
                refine dk_cV (pc' := 173) (as := [(0, 0)]) hE lk_X11_301 (ct_X11_must l G hGd 0) dX11_readRule_170 rfl is_141 rfl (by decide) (Nat.le_of_ble_eq_true rfl) ⟨rfl, (NX_tk (gi406).1), (by omega)⟩ rfl (fun r417 σ416 hr417 hor417 => ?_)
                obtain ⟨rfl, hfσ416, hpr417⟩ := hr417
                have gi418 : QX c r σ342 σ416 := QX_tr gi406 hpr417 (fun k_ j_ h_ => hfσ416 k_ j_ (by omega))
                have hz419 : σ416 141 42 = c := by rw [hfσ416 141 42 (by omega), eσ405, dk_up_n (show ¬ (141 = 169 ∧ 42 = i) by omega), eσ400, dk_up_n (show ¬ (141 = 163 ∧ 42 = i) by omega), hv399]
                exact dk_vret (st := []) hE hR dX11_readRule_173 ⟨rfl, (fun k_ j_ h_ => by rw [hfσ416 k_ j_ (fun w_ => h_ (w_.elim (fun x0_ => Or.inl (x0_)) (fun y0_ => y0_.elim (fun x1_ => Or.inr (Or.inl (x1_))) (fun y1_ => y1_.elim (fun x2_ => Or.inr (Or.inr (Or.inl (x2_)))) (fun y2_ => y2_.elim (fun x3_ => Or.inr (Or.inr (Or.inr (Or.inl (x3_))))) (fun y3_ => y3_.elim (fun x4_ => Or.inr (Or.inr (Or.inr (Or.inr (Or.inl (x4_)))))) (fun y4_ => y4_.elim (fun x5_ => Or.inr (Or.inr (Or.inr (Or.inr (Or.inr (Or.inl (x5_))))))) (fun y5_ => Or.inr (Or.inr (Or.inr (Or.inr (Or.inr (Or.inr (Or.inl (y5_))))))))))))))), eσ405, dk_up_n (show ¬ (k_ = 169 ∧ j_ = i) from fun q_ => h_ (Or.inr (Or.inr (Or.inr (Or.inr (Or.inr (Or.inr (Or.inr (Or.inr (Or.inr (Or.inr (Or.inr (Or.inr (Or.inr (q_.1))))))))))))))), eσ400, dk_up_n (show ¬ (k_ = 163 ∧ j_ = i) from fun q_ => h_ (Or.inr (Or.inr (Or.inr (Or.inr (Or.inr (Or.inr (Or.inr (Or.inr (Or.inr (Or.inr (Or.inr (Or.inr (Or.inl (dk_wr (lo := 162) (hi := 163) q_.1 (by decide)))))))))))))))), eσ359, dk_up_n (show ¬ (k_ = 162 ∧ j_ = i) from fun q_ => h_ (Or.inr (Or.inr (Or.inr (Or.inr (Or.inr (Or.inr (Or.inr (Or.inr (Or.inr (Or.inr (Or.inr (Or.inr (Or.inl (dk_wr (lo := 162) (hi := 163) q_.1 (by decide)))))))))))))))), hfσ351 k_ j_ (fun w_ => h_ (w_.elim (fun x0_ => Or.inl (x0_)) (fun y0_ => y0_.elim (fun x1_ => Or.inr (Or.inl (x1_))) (fun y1_ => y1_.elim (fun x2_ => Or.inr (Or.inr (Or.inl (x2_)))) (fun y2_ => y2_.elim (fun x3_ => Or.inr (Or.inr (Or.inr (Or.inl (x3_))))) (fun y3_ => y3_.elim (fun x4_ => Or.inr (Or.inr (Or.inr (Or.inr (Or.inl (x4_)))))) (fun y4_ => y4_.elim (fun x5_ => Or.inr (Or.inr (Or.inr (Or.inr (Or.inr (Or.inl (x5_))))))) (fun y5_ => Or.inr (Or.inr (Or.inr (Or.inr (Or.inr (Or.inr (Or.inl (y5_))))))))))))))), hfσ342 k_ j_ (fun w_ => h_ (w_.elim (fun x0_ => Or.inr (Or.inr (Or.inl (x0_)))) (fun y0_ => y0_.elim (fun x1_ => Or.inr (Or.inr (Or.inr (Or.inl (x1_))))) (fun y1_ => y1_.elim (fun x2_ => Or.inr (Or.inr (Or.inr (Or.inr (Or.inl (x2_)))))) (fun y2_ => y2_.elim (fun x3_ => Or.inr (Or.inr (Or.inr (Or.inr (Or.inr (Or.inl (x3_))))))) (fun y3_ => Or.inr (Or.inr (Or.inr (Or.inr (Or.inr (Or.inr (Or.inl (y3_)))))))))))))]), ⟨NX_tr hB.1 (gi418).1, RS_line (n := 1) hRS hc.symm (QX_qx hB hB2 gi418) (by omega) (fun j_ h_ => ⟨by rw [hfσ416 162 j_ (by omega), eσ405, dk_up_n (show ¬ (162 = 169 ∧ j_ = i) by omega), eσ400, dk_up_n (show ¬ (162 = 163 ∧ j_ = i) by omega), eσ359, dk_up_n (show ¬ (162 = 162 ∧ j_ = i) by omega), hfσ351 162 j_ (by omega), hfσ342 162 j_ (by omega)], by rw [hfσ416 163 j_ (by omega), eσ405, dk_up_n (show ¬ (163 = 169 ∧ j_ = i) by omega), eσ400, dk_up_n (show ¬ (163 = 163 ∧ j_ = i) by omega), eσ359, dk_up_n (show ¬ (163 = 162 ∧ j_ = i) by omega), hfσ351 163 j_ (by omega), hfσ342 163 j_ (by omega)], by rw [hfσ416 169 j_ (by omega), eσ405, dk_up_n (show ¬ (169 = 169 ∧ j_ = i) by omega), eσ400, dk_up_n (show ¬ (169 = 163 ∧ j_ = i) by omega), eσ359, dk_up_n (show ¬ (169 = 162 ∧ j_ = i) by omega), hfσ351 169 j_ (by omega), hfσ342 169 j_ (by omega)]⟩) (fun _ => ⟨by rw [← hi, hfσ416 162 i (by omega), eσ405, dk_up_n (show ¬ (162 = 169 ∧ i = i) by omega), eσ400, dk_up_n (show ¬ (162 = 163 ∧ i = i) by omega), eσ359, dk_up_s], by rw [← hi, hfσ416 163 i (by omega), eσ405, dk_up_n (show ¬ (163 = 169 ∧ i = i) by omega), eσ400, dk_up_s]; omega⟩), fun a_ q_ => Or.inr (by have x_ := (gi418).1.2.2.1; have t_ := hT.2.2 q_; have y_ := H85.2.2.1; omega)⟩⟩
          · skip
            have hz420 : σ342 141 3 = σ 141 3 := by rw [hfσ342 141 3 (by omega)]
            refine dk_cV (pc' := 104) (as := [(0, 0)]) hE lk_X11_301 (ct_X11_must l G hGd 0) dX11_readRule_101 rfl is_141 rfl (by decide) (Nat.le_of_ble_eq_true rfl) ⟨rfl, (NX_tk (gi345).1), (by omega)⟩ rfl (fun r422 σ421 hr422 hor422 => ?_)
            obtain ⟨rfl, hfσ421, hpr422⟩ := hr422
            have gi423 : QX c r σ342 σ421 := QX_tr gi345 hpr422 (fun k_ j_ h_ => hfσ421 k_ j_ (by omega))
            obtain ⟨i, hi⟩ : ∃ i : Int, i = 3 * r + 1 := ⟨_, rfl⟩
            have gi424 : QX c r σ342 σ421 := gi423
            refine dk_aload_n (pc' := 105) hE dX11_readRule_104 rfl rfl rfl ?_
            refine gf_11_33 (pc' := 108) (w := 162) hE fl_X11_77 dX11_readRule_105 is_141 rfl rfl ?_
            refine dk_iconst (pc' := 109) hE dX11_readRule_108 (by decide) rfl ?_
            refine dk_aload_n (pc' := 110) hE dX11_readRule_109 rfl rfl rfl ?_
            refine gf_11_41 (pc' := 113) hE fl_X11_374 dX11_readRule_110 is_141 rfl (fun v425 hv425 htv425 hbv425 => ?_)
            have hq425 : v332 = v425 := (show v425 = v332 by rw [hv425, hfσ421 141 41 (by omega), hfσ342 141 41 (by omega), hv332]).symm
            subst hq425
            clear htv425 hbv425
            obtain ⟨v426, hv426⟩ : ∃ z : Int, z = 3 * v332 := ⟨_, rfl⟩
            refine dk_imul (pc' := 114) hE dX11_readRule_113 hv426.symm (by omega) rfl ?_
            refine dk_iload_n (pc' := 115) hE dX11_readRule_114 rfl rfl rfl ?_
            obtain ⟨v427, hv427⟩ : ∃ z : Int, z = v426 + 1 := ⟨_, rfl⟩
            refine dk_iadd (pc' := 116) hE dX11_readRule_115 hv427.symm (by omega) rfl ?_
            have hrnv427 : i = v427 := by omega
            subst hrnv427
            refine dk_aload_n (pc' := 117) hE dX11_readRule_116 rfl rfl rfl ?_
            refine gf_11_42 (pc' := 120) hE fl_X11_377 dX11_readRule_117 is_141 rfl (fun v428 hv428 htv428 hbv428 => ?_)
            have hq428 : c = v428 := (show v428 = c by rw [hv428, hfσ421 141 42 (by omega), hfσ342 141 42 (by omega), hc]).symm
            subst hq428
            clear htv428 hbv428
            refine pa_90 (pc' := 121) hE dX11_readRule_120 is_162 (by omega) trivial rfl (fun σ429 eσ429 => ?_)
            have gi430 : QX c r σ342 σ429 := QX_u gi424 (by omega) (by omega) eσ429
            refine dk_aload_n (pc' := 122) hE dX11_readRule_121 rfl rfl rfl ?_
            refine dk_cV (pc' := 125) (as := []) hE lk_X11_250 (ct_X11_isGood l G hGd) dX11_readRule_122 rfl is_141 rfl (by decide) (Nat.le_of_ble_eq_true rfl) rfl rfl (fun r432 σ431 hr432 hor432 => ?_)
            obtain ⟨v433, rfl, hfσ431, hpr432⟩ := hr432
            have hsσ431 : σ429 = σ431 := (funext (fun k => funext (fun j => hfσ431 k j not_false))).symm
            subst hsσ431
            rcases hpr432 with ⟨rfl, hpr432⟩ | ⟨rfl, hpr432⟩
            · skip
              refine dk_if_eq (tgt := 132) (pc' := 128) hE dX11_readRule_125 (by decide) rfl (fun hc434 => absurd hc434 (by decide)) (fun hc434 => ?_)
              refine dk_aload_n (pc' := 129) hE dX11_readRule_128 rfl rfl rfl ?_
              have hz435 : σ429 141 3 = σ 141 3 := by rw [eσ429, dk_up_n (show ¬ (141 = 162 ∧ 3 = i) by omega), hfσ421 141 3 (by omega), hfσ342 141 3 (by omega)]
              have hz436 : σ429 141 42 = c := by rw [eσ429, dk_up_n (show ¬ (141 = 162 ∧ 42 = i) by omega), hv428]
              refine dk_cV (pc' := 132) (as := []) hE lk_X11_386 (ct_X11_e l G hGd c r) dX11_readRule_129 rfl is_141 rfl (by decide) (Nat.le_of_ble_eq_true rfl) ⟨rfl, (NX_tk (gi430).1), (by omega), ((gi430).2.1), (by omega), (by omega)⟩ rfl (fun r438 σ437 hr438 hor438 => ?_)
              obtain ⟨rfl, hfσ437, hpr438⟩ := hr438
              have hz439 : σ429 141 42 = c := by rw [eσ429, dk_up_n (show ¬ (141 = 162 ∧ 42 = i) by omega), hv428]
              have gi440 : QX c r σ342 σ437 := QX_qx gi430 (by omega) hpr438
              refine dk_aload_n (pc' := 133) hE dX11_readRule_132 rfl rfl rfl ?_
              refine gf_11_34 (pc' := 136) (w := 163) hE fl_X11_80 dX11_readRule_133 is_141 rfl rfl ?_
              refine dk_iconst (pc' := 137) hE dX11_readRule_136 (by decide) rfl ?_
              refine dk_aload_n (pc' := 138) hE dX11_readRule_137 rfl rfl rfl ?_
              refine gf_11_41 (pc' := 141) hE fl_X11_374 dX11_readRule_138 is_141 rfl (fun v441 hv441 htv441 hbv441 => ?_)
              have hq441 : v332 = v441 := (show v441 = v332 by rw [hv441, hfσ437 141 41 (by omega), eσ429, dk_up_n (show ¬ (141 = 162 ∧ 41 = i) by omega), hv425]).symm
              subst hq441
              clear htv441 hbv441
              obtain ⟨v442, hv442⟩ : ∃ z : Int, z = 3 * v332 := ⟨_, rfl⟩
              refine dk_imul (pc' := 142) hE dX11_readRule_141 hv442.symm (by omega) rfl ?_
              refine dk_iload_n (pc' := 143) hE dX11_readRule_142 rfl rfl rfl ?_
              obtain ⟨v443, hv443⟩ : ∃ z : Int, z = v442 + 1 := ⟨_, rfl⟩
              refine dk_iadd (pc' := 144) hE dX11_readRule_143 hv443.symm (by omega) rfl ?_
              have hrnv443 : i = v443 := by omega
              subst hrnv443
              refine dk_aload_n (pc' := 145) hE dX11_readRule_144 rfl rfl rfl ?_
              refine gf_11_42 (pc' := 148) hE fl_X11_377 dX11_readRule_145 is_141 rfl (fun v444 hv444 htv444 hbv444 => ?_)
              refine pa_91 (pc' := 149) hE dX11_readRule_148 is_163 (by omega) trivial rfl (fun σ445 eσ445 => ?_)
              have gi446 : QX c r σ342 σ445 := QX_u gi440 (by omega) (by omega) eσ445
              refine dk_aload_n (pc' := 150) hE dX11_readRule_149 rfl rfl rfl ?_
              refine gf_11_40 (pc' := 153) (w := 169) hE fl_X11_98 dX11_readRule_150 is_141 rfl rfl ?_
              refine dk_iconst (pc' := 154) hE dX11_readRule_153 (by decide) rfl ?_
              refine dk_aload_n (pc' := 155) hE dX11_readRule_154 rfl rfl rfl ?_
              refine gf_11_41 (pc' := 158) hE fl_X11_374 dX11_readRule_155 is_141 rfl (fun v447 hv447 htv447 hbv447 => ?_)
              have hq447 : v332 = v447 := (show v447 = v332 by rw [hv447, eσ445, dk_up_n (show ¬ (141 = 163 ∧ 41 = i) by omega), hv441]).symm
              subst hq447
              clear htv447 hbv447
              obtain ⟨v448, hv448⟩ : ∃ z : Int, z = 3 * v332 := ⟨_, rfl⟩
              refine dk_imul (pc' := 159) hE dX11_readRule_158 hv448.symm (by omega) rfl ?_
              refine dk_iload_n (pc' := 160) hE dX11_readRule_159 rfl rfl rfl ?_
              obtain ⟨v449, hv449⟩ : ∃ z : Int, z = v448 + 1 := ⟨_, rfl⟩
              refine dk_iadd (pc' := 161) hE dX11_readRule_160 hv449.symm (by omega) rfl ?_
              have hrnv449 : i = v449 := by omega
              subst hrnv449
              refine dk_iconst (pc' := 162) hE dX11_readRule_161 (by decide) rfl ?_
              refine pa_97 (pc' := 163) hE dX11_readRule_162 is_169 (by omega) (by omega) trivial rfl (fun σ450 eσ450 => ?_)
              have gi451 : QX c r σ342 σ450 := QX_u gi446 (by omega) (by omega) eσ450
              refine dk_aload_n (pc' := 164) hE dX11_readRule_163 rfl rfl rfl ?_
              refine dk_aload_n (pc' := 165) hE dX11_readRule_164 rfl rfl rfl ?_
              refine dk_bipush (pc' := 167) hE dX11_readRule_165 (by decide) rfl ?_
              refine dk_cV (pc' := 170) (as := [(0, 59)]) hE lk_X11_298 (ct_X11_is l G hGd 59) dX11_readRule_167 rfl is_141 rfl (by decide) (Nat.le_of_ble_eq_true rfl) rfl rfl (fun r453 σ452 hr453 hor453 => ?_)
              obtain ⟨v454, rfl, hfσ452, hpr453⟩ := hr453
              have hsσ452 : σ450 = σ452 := (funext (fun k => funext (fun j => hfσ452 k j not_false))).symm
              subst hsσ452
              rcases hpr453 with ⟨rfl, hpr453⟩ | rfl
              · skip
                have hz455 : σ450 141 3 = σ 141 3 := by rw [eσ450, dk_up_n (show ¬ (141 = 169 ∧ 3 = i) by omega), eσ445, dk_up_n (show ¬ (141 = 163 ∧ 3 = i) by omega), hfσ437 141 3 (by omega), eσ429, dk_up_n (show ¬ (141 = 162 ∧ 3 = i) by omega), hfσ421 141 3 (by omega), hfσ342 141 3 (by omega)]
                refine dk_cV (pc' := 173) (as := [(0, 1)]) hE lk_X11_301 (ct_X11_must l G hGd 1) dX11_readRule_170 rfl is_141 rfl (by decide) (Nat.le_of_ble_eq_true rfl) ⟨rfl, (NX_tk (gi451).1), (by omega)⟩ rfl (fun r457 σ456 hr457 hor457 => ?_)
                obtain ⟨rfl, hfσ456, hpr457⟩ := hr457
                have gi458 : QX c r σ342 σ456 := QX_tr gi451 hpr457 (fun k_ j_ h_ => hfσ456 k_ j_ (by omega))
                have hz459 : σ456 141 42 = v444 := by rw [hfσ456 141 42 (by omega), eσ450, dk_up_n (show ¬ (141 = 169 ∧ 42 = i) by omega), eσ445, dk_up_n (show ¬ (141 = 163 ∧ 42 = i) by omega), hv444]
                exact dk_vret (st := []) hE hR dX11_readRule_173 ⟨rfl, (fun k_ j_ h_ => by rw [hfσ456 k_ j_ (fun w_ => h_ (w_.elim (fun x0_ => Or.inl (x0_)) (fun y0_ => y0_.elim (fun x1_ => Or.inr (Or.inl (x1_))) (fun y1_ => y1_.elim (fun x2_ => Or.inr (Or.inr (Or.inl (x2_)))) (fun y2_ => y2_.elim (fun x3_ => Or.inr (Or.inr (Or.inr (Or.inl (x3_))))) (fun y3_ => y3_.elim (fun x4_ => Or.inr (Or.inr (Or.inr (Or.inr (Or.inl (x4_)))))) (fun y4_ => y4_.elim (fun x5_ => Or.inr (Or.inr (Or.inr (Or.inr (Or.inr (Or.inl (x5_))))))) (fun y5_ => Or.inr (Or.inr (Or.inr (Or.inr (Or.inr (Or.inr (Or.inl (y5_))))))))))))))), eσ450, dk_up_n (show ¬ (k_ = 169 ∧ j_ = i) from fun q_ => h_ (Or.inr (Or.inr (Or.inr (Or.inr (Or.inr (Or.inr (Or.inr (Or.inr (Or.inr (Or.inr (Or.inr (Or.inr (Or.inr (q_.1))))))))))))))), eσ445, dk_up_n (show ¬ (k_ = 163 ∧ j_ = i) from fun q_ => h_ (Or.inr (Or.inr (Or.inr (Or.inr (Or.inr (Or.inr (Or.inr (Or.inr (Or.inr (Or.inr (Or.inr (Or.inr (Or.inl (dk_wr (lo := 162) (hi := 163) q_.1 (by decide)))))))))))))))), hfσ437 k_ j_ (fun w_ => h_ (w_.elim (fun x0_ => Or.inl (x0_)) (fun y0_ => y0_.elim (fun x1_ => Or.inr (Or.inl (x1_))) (fun y1_ => y1_.elim (fun x2_ => Or.inr (Or.inr (Or.inl (x2_)))) (fun y2_ => y2_.elim (fun x3_ => Or.inr (Or.inr (Or.inr (Or.inl (x3_))))) (fun y3_ => y3_.elim (fun x4_ => Or.inr (Or.inr (Or.inr (Or.inr (Or.inl (x4_)))))) (fun y4_ => y4_.elim (fun x5_ => Or.inr (Or.inr (Or.inr (Or.inr (Or.inr (Or.inl (x5_))))))) (fun y5_ => y5_.elim (fun x6_ => Or.inr (Or.inr (Or.inr (Or.inr (Or.inr (Or.inr (Or.inl (x6_)))))))) (fun y6_ => y6_.elim (fun x7_ => Or.inr (Or.inr (Or.inr (Or.inr (Or.inr (Or.inr (Or.inr (Or.inl (x7_))))))))) (fun y7_ => y7_.elim (fun x8_ => Or.inr (Or.inr (Or.inr (Or.inr (Or.inr (Or.inr (Or.inr (Or.inr (Or.inl (x8_)))))))))) (fun y8_ => y8_.elim (fun x9_ => Or.inr (Or.inr (Or.inr (Or.inr (Or.inr (Or.inr (Or.inr (Or.inr (Or.inr (Or.inl (x9_))))))))))) (fun y9_ => y9_.elim (fun x10_ => Or.inr (Or.inr (Or.inr (Or.inr (Or.inr (Or.inr (Or.inr (Or.inr (Or.inr (Or.inr (Or.inl (x10_)))))))))))) (fun y10_ => Or.inr (Or.inr (Or.inr (Or.inr (Or.inr (Or.inr (Or.inr (Or.inr (Or.inr (Or.inr (Or.inr (Or.inl (y10_))))))))))))))))))))))))), eσ429, dk_up_n (show ¬ (k_ = 162 ∧ j_ = i) from fun q_ => h_ (Or.inr (Or.inr (Or.inr (Or.inr (Or.inr (Or.inr (Or.inr (Or.inr (Or.inr (Or.inr (Or.inr (Or.inr (Or.inl (dk_wr (lo := 162) (hi := 163) q_.1 (by decide)))))))))))))))), hfσ421 k_ j_ (fun w_ => h_ (w_.elim (fun x0_ => Or.inl (x0_)) (fun y0_ => y0_.elim (fun x1_ => Or.inr (Or.inl (x1_))) (fun y1_ => y1_.elim (fun x2_ => Or.inr (Or.inr (Or.inl (x2_)))) (fun y2_ => y2_.elim (fun x3_ => Or.inr (Or.inr (Or.inr (Or.inl (x3_))))) (fun y3_ => y3_.elim (fun x4_ => Or.inr (Or.inr (Or.inr (Or.inr (Or.inl (x4_)))))) (fun y4_ => y4_.elim (fun x5_ => Or.inr (Or.inr (Or.inr (Or.inr (Or.inr (Or.inl (x5_))))))) (fun y5_ => Or.inr (Or.inr (Or.inr (Or.inr (Or.inr (Or.inr (Or.inl (y5_))))))))))))))), hfσ342 k_ j_ (fun w_ => h_ (w_.elim (fun x0_ => Or.inr (Or.inr (Or.inl (x0_)))) (fun y0_ => y0_.elim (fun x1_ => Or.inr (Or.inr (Or.inr (Or.inl (x1_))))) (fun y1_ => y1_.elim (fun x2_ => Or.inr (Or.inr (Or.inr (Or.inr (Or.inl (x2_)))))) (fun y2_ => y2_.elim (fun x3_ => Or.inr (Or.inr (Or.inr (Or.inr (Or.inr (Or.inl (x3_))))))) (fun y3_ => Or.inr (Or.inr (Or.inr (Or.inr (Or.inr (Or.inr (Or.inl (y3_)))))))))))))]), ⟨NX_tr hB.1 (gi458).1, RS_line (n := 1) hRS hc.symm (QX_qx hB hB2 gi458) (by omega) (fun j_ h_ => ⟨by rw [hfσ456 162 j_ (by omega), eσ450, dk_up_n (show ¬ (162 = 169 ∧ j_ = i) by omega), eσ445, dk_up_n (show ¬ (162 = 163 ∧ j_ = i) by omega), hfσ437 162 j_ (by omega), eσ429, dk_up_n (show ¬ (162 = 162 ∧ j_ = i) by omega), hfσ421 162 j_ (by omega), hfσ342 162 j_ (by omega)], by rw [hfσ456 163 j_ (by omega), eσ450, dk_up_n (show ¬ (163 = 169 ∧ j_ = i) by omega), eσ445, dk_up_n (show ¬ (163 = 163 ∧ j_ = i) by omega), hfσ437 163 j_ (by omega), eσ429, dk_up_n (show ¬ (163 = 162 ∧ j_ = i) by omega), hfσ421 163 j_ (by omega), hfσ342 163 j_ (by omega)], by rw [hfσ456 169 j_ (by omega), eσ450, dk_up_n (show ¬ (169 = 169 ∧ j_ = i) by omega), eσ445, dk_up_n (show ¬ (169 = 163 ∧ j_ = i) by omega), hfσ437 169 j_ (by omega), eσ429, dk_up_n (show ¬ (169 = 162 ∧ j_ = i) by omega), hfσ421 169 j_ (by omega), hfσ342 169 j_ (by omega)]⟩) (fun _ => ⟨by rw [← hi, hfσ456 162 i (by omega), eσ450, dk_up_n (show ¬ (162 = 169 ∧ i = i) by omega), eσ445, dk_up_n (show ¬ (162 = 163 ∧ i = i) by omega), hfσ437 162 i (by omega), eσ429, dk_up_s], by rw [← hi, hfσ456 163 i (by omega), eσ450, dk_up_n (show ¬ (163 = 169 ∧ i = i) by omega), eσ445, dk_up_s]; omega⟩), fun a_ q_ => Or.inr (by have x_ := (gi458).1.2.2.1; have t_ := hT.2.2 q_; have y_ := H85.2.2.1; omega)⟩⟩
              · skip
                have hz460 : σ450 141 3 = σ 141 3 := by rw [eσ450, dk_up_n (show ¬ (141 = 169 ∧ 3 = i) by omega), eσ445, dk_up_n (show ¬ (141 = 163 ∧ 3 = i) by omega), hfσ437 141 3 (by omega), eσ429, dk_up_n (show ¬ (141 = 162 ∧ 3 = i) by omega), hfσ421 141 3 (by omega), hfσ342 141 3 (by omega)]
                refine dk_cV (pc' := 173) (as := [(0, 0)]) hE lk_X11_301 (ct_X11_must l G hGd 0) dX11_readRule_170 rfl is_141 rfl (by decide) (Nat.le_of_ble_eq_true rfl) ⟨rfl, (NX_tk (gi451).1), (by omega)⟩ rfl (fun r462 σ461 hr462 hor462 => ?_)
                obtain ⟨rfl, hfσ461, hpr462⟩ := hr462
                have gi463 : QX c r σ342 σ461 := QX_tr gi451 hpr462 (fun k_ j_ h_ => hfσ461 k_ j_ (by omega))
                have hz464 : σ461 141 42 = v444 := by rw [hfσ461 141 42 (by omega), eσ450, dk_up_n (show ¬ (141 = 169 ∧ 42 = i) by omega), eσ445, dk_up_n (show ¬ (141 = 163 ∧ 42 = i) by omega), hv444]
                exact dk_vret (st := []) hE hR dX11_readRule_173 ⟨rfl, (fun k_ j_ h_ => by rw [hfσ461 k_ j_ (fun w_ => h_ (w_.elim (fun x0_ => Or.inl (x0_)) (fun y0_ => y0_.elim (fun x1_ => Or.inr (Or.inl (x1_))) (fun y1_ => y1_.elim (fun x2_ => Or.inr (Or.inr (Or.inl (x2_)))) (fun y2_ => y2_.elim (fun x3_ => Or.inr (Or.inr (Or.inr (Or.inl (x3_))))) (fun y3_ => y3_.elim (fun x4_ => Or.inr (Or.inr (Or.inr (Or.inr (Or.inl (x4_)))))) (fun y4_ => y4_.elim (fun x5_ => Or.inr (Or.inr (Or.inr (Or.inr (Or.inr (Or.inl (x5_))))))) (fun y5_ => Or.inr (Or.inr (Or.inr (Or.inr (Or.inr (Or.inr (Or.inl (y5_))))))))))))))), eσ450, dk_up_n (show ¬ (k_ = 169 ∧ j_ = i) from fun q_ => h_ (Or.inr (Or.inr (Or.inr (Or.inr (Or.inr (Or.inr (Or.inr (Or.inr (Or.inr (Or.inr (Or.inr (Or.inr (Or.inr (q_.1))))))))))))))), eσ445, dk_up_n (show ¬ (k_ = 163 ∧ j_ = i) from fun q_ => h_ (Or.inr (Or.inr (Or.inr (Or.inr (Or.inr (Or.inr (Or.inr (Or.inr (Or.inr (Or.inr (Or.inr (Or.inr (Or.inl (dk_wr (lo := 162) (hi := 163) q_.1 (by decide)))))))))))))))), hfσ437 k_ j_ (fun w_ => h_ (w_.elim (fun x0_ => Or.inl (x0_)) (fun y0_ => y0_.elim (fun x1_ => Or.inr (Or.inl (x1_))) (fun y1_ => y1_.elim (fun x2_ => Or.inr (Or.inr (Or.inl (x2_)))) (fun y2_ => y2_.elim (fun x3_ => Or.inr (Or.inr (Or.inr (Or.inl (x3_))))) (fun y3_ => y3_.elim (fun x4_ => Or.inr (Or.inr (Or.inr (Or.inr (Or.inl (x4_)))))) (fun y4_ => y4_.elim (fun x5_ => Or.inr (Or.inr (Or.inr (Or.inr (Or.inr (Or.inl (x5_))))))) (fun y5_ => y5_.elim (fun x6_ => Or.inr (Or.inr (Or.inr (Or.inr (Or.inr (Or.inr (Or.inl (x6_)))))))) (fun y6_ => y6_.elim (fun x7_ => Or.inr (Or.inr (Or.inr (Or.inr (Or.inr (Or.inr (Or.inr (Or.inl (x7_))))))))) (fun y7_ => y7_.elim (fun x8_ => Or.inr (Or.inr (Or.inr (Or.inr (Or.inr (Or.inr (Or.inr (Or.inr (Or.inl (x8_)))))))))) (fun y8_ => y8_.elim (fun x9_ => Or.inr (Or.inr (Or.inr (Or.inr (Or.inr (Or.inr (Or.inr (Or.inr (Or.inr (Or.inl (x9_))))))))))) (fun y9_ => y9_.elim (fun x10_ => Or.inr (Or.inr (Or.inr (Or.inr (Or.inr (Or.inr (Or.inr (Or.inr (Or.inr (Or.inr (Or.inl (x10_)))))))))))) (fun y10_ => Or.inr (Or.inr (Or.inr (Or.inr (Or.inr (Or.inr (Or.inr (Or.inr (Or.inr (Or.inr (Or.inr (Or.inl (y10_))))))))))))))))))))))))), eσ429, dk_up_n (show ¬ (k_ = 162 ∧ j_ = i) from fun q_ => h_ (Or.inr (Or.inr (Or.inr (Or.inr (Or.inr (Or.inr (Or.inr (Or.inr (Or.inr (Or.inr (Or.inr (Or.inr (Or.inl (dk_wr (lo := 162) (hi := 163) q_.1 (by decide)))))))))))))))), hfσ421 k_ j_ (fun w_ => h_ (w_.elim (fun x0_ => Or.inl (x0_)) (fun y0_ => y0_.elim (fun x1_ => Or.inr (Or.inl (x1_))) (fun y1_ => y1_.elim (fun x2_ => Or.inr (Or.inr (Or.inl (x2_)))) (fun y2_ => y2_.elim (fun x3_ => Or.inr (Or.inr (Or.inr (Or.inl (x3_))))) (fun y3_ => y3_.elim (fun x4_ => Or.inr (Or.inr (Or.inr (Or.inr (Or.inl (x4_)))))) (fun y4_ => y4_.elim (fun x5_ => Or.inr (Or.inr (Or.inr (Or.inr (Or.inr (Or.inl (x5_))))))) (fun y5_ => Or.inr (Or.inr (Or.inr (Or.inr (Or.inr (Or.inr (Or.inl (y5_))))))))))))))), hfσ342 k_ j_ (fun w_ => h_ (w_.elim (fun x0_ => Or.inr (Or.inr (Or.inl (x0_)))) (fun y0_ => y0_.elim (fun x1_ => Or.inr (Or.inr (Or.inr (Or.inl (x1_))))) (fun y1_ => y1_.elim (fun x2_ => Or.inr (Or.inr (Or.inr (Or.inr (Or.inl (x2_)))))) (fun y2_ => y2_.elim (fun x3_ => Or.inr (Or.inr (Or.inr (Or.inr (Or.inr (Or.inl (x3_))))))) (fun y3_ => Or.inr (Or.inr (Or.inr (Or.inr (Or.inr (Or.inr (Or.inl (y3_)))))))))))))]), ⟨NX_tr hB.1 (gi463).1, RS_line (n := 1) hRS hc.symm (QX_qx hB hB2 gi463) (by omega) (fun j_ h_ => ⟨by rw [hfσ461 162 j_ (by omega), eσ450, dk_up_n (show ¬ (162 = 169 ∧ j_ = i) by omega), eσ445, dk_up_n (show ¬ (162 = 163 ∧ j_ = i) by omega), hfσ437 162 j_ (by omega), eσ429, dk_up_n (show ¬ (162 = 162 ∧ j_ = i) by omega), hfσ421 162 j_ (by omega), hfσ342 162 j_ (by omega)], by rw [hfσ461 163 j_ (by omega), eσ450, dk_up_n (show ¬ (163 = 169 ∧ j_ = i) by omega), eσ445, dk_up_n (show ¬ (163 = 163 ∧ j_ = i) by omega), hfσ437 163 j_ (by omega), eσ429, dk_up_n (show ¬ (163 = 162 ∧ j_ = i) by omega), hfσ421 163 j_ (by omega), hfσ342 163 j_ (by omega)], by rw [hfσ461 169 j_ (by omega), eσ450, dk_up_n (show ¬ (169 = 169 ∧ j_ = i) by omega), eσ445, dk_up_n (show ¬ (169 = 163 ∧ j_ = i) by omega), hfσ437 169 j_ (by omega), eσ429, dk_up_n (show ¬ (169 = 162 ∧ j_ = i) by omega), hfσ421 169 j_ (by omega), hfσ342 169 j_ (by omega)]⟩) (fun _ => ⟨by rw [← hi, hfσ461 162 i (by omega), eσ450, dk_up_n (show ¬ (162 = 169 ∧ i = i) by omega), eσ445, dk_up_n (show ¬ (162 = 163 ∧ i = i) by omega), hfσ437 162 i (by omega), eσ429, dk_up_s], by rw [← hi, hfσ461 163 i (by omega), eσ450, dk_up_n (show ¬ (163 = 169 ∧ i = i) by omega), eσ445, dk_up_s]; omega⟩), fun a_ q_ => Or.inr (by have x_ := (gi463).1.2.2.1; have t_ := hT.2.2 q_; have y_ := H85.2.2.1; omega)⟩⟩
            · skip
              refine dk_if_eq (tgt := 132) (pc' := 128) hE dX11_readRule_125 (by decide) rfl (fun hc465 => ?_) (fun hc465 => absurd hc465 (by decide))
              refine dk_aload_n (pc' := 133) hE dX11_readRule_132 rfl rfl rfl ?_
              refine gf_11_34 (pc' := 136) (w := 163) hE fl_X11_80 dX11_readRule_133 is_141 rfl rfl ?_
              refine dk_iconst (pc' := 137) hE dX11_readRule_136 (by decide) rfl ?_
              refine dk_aload_n (pc' := 138) hE dX11_readRule_137 rfl rfl rfl ?_
              refine gf_11_41 (pc' := 141) hE fl_X11_374 dX11_readRule_138 is_141 rfl (fun v466 hv466 htv466 hbv466 => ?_)
              have hq466 : v332 = v466 := (show v466 = v332 by rw [hv466, eσ429, dk_up_n (show ¬ (141 = 162 ∧ 41 = i) by omega), hv425]).symm
              subst hq466
              clear htv466 hbv466
              obtain ⟨v467, hv467⟩ : ∃ z : Int, z = 3 * v332 := ⟨_, rfl⟩
              refine dk_imul (pc' := 142) hE dX11_readRule_141 hv467.symm (by omega) rfl ?_
              refine dk_iload_n (pc' := 143) hE dX11_readRule_142 rfl rfl rfl ?_
              obtain ⟨v468, hv468⟩ : ∃ z : Int, z = v467 + 1 := ⟨_, rfl⟩
              refine dk_iadd (pc' := 144) hE dX11_readRule_143 hv468.symm (by omega) rfl ?_
              have hrnv468 : i = v468 := by omega
              subst hrnv468
              refine dk_aload_n (pc' := 145) hE dX11_readRule_144 rfl rfl rfl ?_
              refine gf_11_42 (pc' := 148) hE fl_X11_377 dX11_readRule_145 is_141 rfl (fun v469 hv469 htv469 hbv469 => ?_)
              have hq469 : c = v469 := (show v469 = c by rw [hv469, eσ429, dk_up_n (show ¬ (141 = 162 ∧ 42 = i) by omega), hv428]).symm
              subst hq469
              clear htv469 hbv469
              refine pa_91 (pc' := 149) hE dX11_readRule_148 is_163 (by omega) trivial rfl (fun σ470 eσ470 => ?_)
              have gi471 : QX c r σ342 σ470 := QX_u gi430 (by omega) (by omega) eσ470
              refine dk_aload_n (pc' := 150) hE dX11_readRule_149 rfl rfl rfl ?_
              refine gf_11_40 (pc' := 153) (w := 169) hE fl_X11_98 dX11_readRule_150 is_141 rfl rfl ?_
              refine dk_iconst (pc' := 154) hE dX11_readRule_153 (by decide) rfl ?_
              refine dk_aload_n (pc' := 155) hE dX11_readRule_154 rfl rfl rfl ?_
              refine gf_11_41 (pc' := 158) hE fl_X11_374 dX11_readRule_155 is_141 rfl (fun v472 hv472 htv472 hbv472 => ?_)
              have hq472 : v332 = v472 := (show v472 = v332 by rw [hv472, eσ470, dk_up_n (show ¬ (141 = 163 ∧ 41 = i) by omega), hv466]).symm
              subst hq472
              clear htv472 hbv472
              obtain ⟨v473, hv473⟩ : ∃ z : Int, z = 3 * v332 := ⟨_, rfl⟩
              refine dk_imul (pc' := 159) hE dX11_readRule_158 hv473.symm (by omega) rfl ?_
              refine dk_iload_n (pc' := 160) hE dX11_readRule_159 rfl rfl rfl ?_
              obtain ⟨v474, hv474⟩ : ∃ z : Int, z = v473 + 1 := ⟨_, rfl⟩
              refine dk_iadd (pc' := 161) hE dX11_readRule_160 hv474.symm (by omega) rfl ?_
              have hrnv474 : i = v474 := by omega
              subst hrnv474
              refine dk_iconst (pc' := 162) hE dX11_readRule_161 (by decide) rfl ?_
              refine pa_97 (pc' := 163) hE dX11_readRule_162 is_169 (by omega) (by omega) trivial rfl (fun σ475 eσ475 => ?_)
              have gi476 : QX c r σ342 σ475 := QX_u gi471 (by omega) (by omega) eσ475
              refine dk_aload_n (pc' := 164) hE dX11_readRule_163 rfl rfl rfl ?_
              refine dk_aload_n (pc' := 165) hE dX11_readRule_164 rfl rfl rfl ?_
              refine dk_bipush (pc' := 167) hE dX11_readRule_165 (by decide) rfl ?_
              refine dk_cV (pc' := 170) (as := [(0, 59)]) hE lk_X11_298 (ct_X11_is l G hGd 59) dX11_readRule_167 rfl is_141 rfl (by decide) (Nat.le_of_ble_eq_true rfl) rfl rfl (fun r478 σ477 hr478 hor478 => ?_)
              obtain ⟨v479, rfl, hfσ477, hpr478⟩ := hr478
              have hsσ477 : σ475 = σ477 := (funext (fun k => funext (fun j => hfσ477 k j not_false))).symm
              subst hsσ477
              rcases hpr478 with ⟨rfl, hpr478⟩ | rfl
              · skip
                have hz480 : σ475 141 3 = σ 141 3 := by rw [eσ475, dk_up_n (show ¬ (141 = 169 ∧ 3 = i) by omega), eσ470, dk_up_n (show ¬ (141 = 163 ∧ 3 = i) by omega), eσ429, dk_up_n (show ¬ (141 = 162 ∧ 3 = i) by omega), hfσ421 141 3 (by omega), hfσ342 141 3 (by omega)]
                refine dk_cV (pc' := 173) (as := [(0, 1)]) hE lk_X11_301 (ct_X11_must l G hGd 1) dX11_readRule_170 rfl is_141 rfl (by decide) (Nat.le_of_ble_eq_true rfl) ⟨rfl, (NX_tk (gi476).1), (by omega)⟩ rfl (fun r482 σ481 hr482 hor482 => ?_)
                obtain ⟨rfl, hfσ481, hpr482⟩ := hr482
                have gi483 : QX c r σ342 σ481 := QX_tr gi476 hpr482 (fun k_ j_ h_ => hfσ481 k_ j_ (by omega))
                have hz484 : σ481 141 42 = c := by rw [hfσ481 141 42 (by omega), eσ475, dk_up_n (show ¬ (141 = 169 ∧ 42 = i) by omega), eσ470, dk_up_n (show ¬ (141 = 163 ∧ 42 = i) by omega), hv469]
                exact dk_vret (st := []) hE hR dX11_readRule_173 ⟨rfl, (fun k_ j_ h_ => by rw [hfσ481 k_ j_ (fun w_ => h_ (w_.elim (fun x0_ => Or.inl (x0_)) (fun y0_ => y0_.elim (fun x1_ => Or.inr (Or.inl (x1_))) (fun y1_ => y1_.elim (fun x2_ => Or.inr (Or.inr (Or.inl (x2_)))) (fun y2_ => y2_.elim (fun x3_ => Or.inr (Or.inr (Or.inr (Or.inl (x3_))))) (fun y3_ => y3_.elim (fun x4_ => Or.inr (Or.inr (Or.inr (Or.inr (Or.inl (x4_)))))) (fun y4_ => y4_.elim (fun x5_ => Or.inr (Or.inr (Or.inr (Or.inr (Or.inr (Or.inl (x5_))))))) (fun y5_ => Or.inr (Or.inr (Or.inr (Or.inr (Or.inr (Or.inr (Or.inl (y5_))))))))))))))), eσ475, dk_up_n (show ¬ (k_ = 169 ∧ j_ = i) from fun q_ => h_ (Or.inr (Or.inr (Or.inr (Or.inr (Or.inr (Or.inr (Or.inr (Or.inr (Or.inr (Or.inr (Or.inr (Or.inr (Or.inr (q_.1))))))))))))))), eσ470, dk_up_n (show ¬ (k_ = 163 ∧ j_ = i) from fun q_ => h_ (Or.inr (Or.inr (Or.inr (Or.inr (Or.inr (Or.inr (Or.inr (Or.inr (Or.inr (Or.inr (Or.inr (Or.inr (Or.inl (dk_wr (lo := 162) (hi := 163) q_.1 (by decide)))))))))))))))), eσ429, dk_up_n (show ¬ (k_ = 162 ∧ j_ = i) from fun q_ => h_ (Or.inr (Or.inr (Or.inr (Or.inr (Or.inr (Or.inr (Or.inr (Or.inr (Or.inr (Or.inr (Or.inr (Or.inr (Or.inl (dk_wr (lo := 162) (hi := 163) q_.1 (by decide)))))))))))))))), hfσ421 k_ j_ (fun w_ => h_ (w_.elim (fun x0_ => Or.inl (x0_)) (fun y0_ => y0_.elim (fun x1_ => Or.inr (Or.inl (x1_))) (fun y1_ => y1_.elim (fun x2_ => Or.inr (Or.inr (Or.inl (x2_)))) (fun y2_ => y2_.elim (fun x3_ => Or.inr (Or.inr (Or.inr (Or.inl (x3_))))) (fun y3_ => y3_.elim (fun x4_ => Or.inr (Or.inr (Or.inr (Or.inr (Or.inl (x4_)))))) (fun y4_ => y4_.elim (fun x5_ => Or.inr (Or.inr (Or.inr (Or.inr (Or.inr (Or.inl (x5_))))))) (fun y5_ => Or.inr (Or.inr (Or.inr (Or.inr (Or.inr (Or.inr (Or.inl (y5_))))))))))))))), hfσ342 k_ j_ (fun w_ => h_ (w_.elim (fun x0_ => Or.inr (Or.inr (Or.inl (x0_)))) (fun y0_ => y0_.elim (fun x1_ => Or.inr (Or.inr (Or.inr (Or.inl (x1_))))) (fun y1_ => y1_.elim (fun x2_ => Or.inr (Or.inr (Or.inr (Or.inr (Or.inl (x2_)))))) (fun y2_ => y2_.elim (fun x3_ => Or.inr (Or.inr (Or.inr (Or.inr (Or.inr (Or.inl (x3_))))))) (fun y3_ => Or.inr (Or.inr (Or.inr (Or.inr (Or.inr (Or.inr (Or.inl (y3_)))))))))))))]), ⟨NX_tr hB.1 (gi483).1, RS_line (n := 1) hRS hc.symm (QX_qx hB hB2 gi483) (by omega) (fun j_ h_ => ⟨by rw [hfσ481 162 j_ (by omega), eσ475, dk_up_n (show ¬ (162 = 169 ∧ j_ = i) by omega), eσ470, dk_up_n (show ¬ (162 = 163 ∧ j_ = i) by omega), eσ429, dk_up_n (show ¬ (162 = 162 ∧ j_ = i) by omega), hfσ421 162 j_ (by omega), hfσ342 162 j_ (by omega)], by rw [hfσ481 163 j_ (by omega), eσ475, dk_up_n (show ¬ (163 = 169 ∧ j_ = i) by omega), eσ470, dk_up_n (show ¬ (163 = 163 ∧ j_ = i) by omega), eσ429, dk_up_n (show ¬ (163 = 162 ∧ j_ = i) by omega), hfσ421 163 j_ (by omega), hfσ342 163 j_ (by omega)], by rw [hfσ481 169 j_ (by omega), eσ475, dk_up_n (show ¬ (169 = 169 ∧ j_ = i) by omega), eσ470, dk_up_n (show ¬ (169 = 163 ∧ j_ = i) by omega), eσ429, dk_up_n (show ¬ (169 = 162 ∧ j_ = i) by omega), hfσ421 169 j_ (by omega), hfσ342 169 j_ (by omega)]⟩) (fun _ => ⟨by rw [← hi, hfσ481 162 i (by omega), eσ475, dk_up_n (show ¬ (162 = 169 ∧ i = i) by omega), eσ470, dk_up_n (show ¬ (162 = 163 ∧ i = i) by omega), eσ429, dk_up_s], by rw [← hi, hfσ481 163 i (by omega), eσ475, dk_up_n (show ¬ (163 = 169 ∧ i = i) by omega), eσ470, dk_up_s]; omega⟩), fun a_ q_ => Or.inr (by have x_ := (gi483).1.2.2.1; have t_ := hT.2.2 q_; have y_ := H85.2.2.1; omega)⟩⟩
              · skip
                have hz485 : σ475 141 3 = σ 141 3 := by rw [eσ475, dk_up_n (show ¬ (141 = 169 ∧ 3 = i) by omega), eσ470, dk_up_n (show ¬ (141 = 163 ∧ 3 = i) by omega), eσ429, dk_up_n (show ¬ (141 = 162 ∧ 3 = i) by omega), hfσ421 141 3 (by omega), hfσ342 141 3 (by omega)]
                refine dk_cV (pc' := 173) (as := [(0, 0)]) hE lk_X11_301 (ct_X11_must l G hGd 0) dX11_readRule_170 rfl is_141 rfl (by decide) (Nat.le_of_ble_eq_true rfl) ⟨rfl, (NX_tk (gi476).1), (by omega)⟩ rfl (fun r487 σ486 hr487 hor487 => ?_)
                obtain ⟨rfl, hfσ486, hpr487⟩ := hr487
                have gi488 : QX c r σ342 σ486 := QX_tr gi476 hpr487 (fun k_ j_ h_ => hfσ486 k_ j_ (by omega))
                have hz489 : σ486 141 42 = c := by rw [hfσ486 141 42 (by omega), eσ475, dk_up_n (show ¬ (141 = 169 ∧ 42 = i) by omega), eσ470, dk_up_n (show ¬ (141 = 163 ∧ 42 = i) by omega), hv469]
                exact dk_vret (st := []) hE hR dX11_readRule_173 ⟨rfl, (fun k_ j_ h_ => by rw [hfσ486 k_ j_ (fun w_ => h_ (w_.elim (fun x0_ => Or.inl (x0_)) (fun y0_ => y0_.elim (fun x1_ => Or.inr (Or.inl (x1_))) (fun y1_ => y1_.elim (fun x2_ => Or.inr (Or.inr (Or.inl (x2_)))) (fun y2_ => y2_.elim (fun x3_ => Or.inr (Or.inr (Or.inr (Or.inl (x3_))))) (fun y3_ => y3_.elim (fun x4_ => Or.inr (Or.inr (Or.inr (Or.inr (Or.inl (x4_)))))) (fun y4_ => y4_.elim (fun x5_ => Or.inr (Or.inr (Or.inr (Or.inr (Or.inr (Or.inl (x5_))))))) (fun y5_ => Or.inr (Or.inr (Or.inr (Or.inr (Or.inr (Or.inr (Or.inl (y5_))))))))))))))), eσ475, dk_up_n (show ¬ (k_ = 169 ∧ j_ = i) from fun q_ => h_ (Or.inr (Or.inr (Or.inr (Or.inr (Or.inr (Or.inr (Or.inr (Or.inr (Or.inr (Or.inr (Or.inr (Or.inr (Or.inr (q_.1))))))))))))))), eσ470, dk_up_n (show ¬ (k_ = 163 ∧ j_ = i) from fun q_ => h_ (Or.inr (Or.inr (Or.inr (Or.inr (Or.inr (Or.inr (Or.inr (Or.inr (Or.inr (Or.inr (Or.inr (Or.inr (Or.inl (dk_wr (lo := 162) (hi := 163) q_.1 (by decide)))))))))))))))), eσ429, dk_up_n (show ¬ (k_ = 162 ∧ j_ = i) from fun q_ => h_ (Or.inr (Or.inr (Or.inr (Or.inr (Or.inr (Or.inr (Or.inr (Or.inr (Or.inr (Or.inr (Or.inr (Or.inr (Or.inl (dk_wr (lo := 162) (hi := 163) q_.1 (by decide)))))))))))))))), hfσ421 k_ j_ (fun w_ => h_ (w_.elim (fun x0_ => Or.inl (x0_)) (fun y0_ => y0_.elim (fun x1_ => Or.inr (Or.inl (x1_))) (fun y1_ => y1_.elim (fun x2_ => Or.inr (Or.inr (Or.inl (x2_)))) (fun y2_ => y2_.elim (fun x3_ => Or.inr (Or.inr (Or.inr (Or.inl (x3_))))) (fun y3_ => y3_.elim (fun x4_ => Or.inr (Or.inr (Or.inr (Or.inr (Or.inl (x4_)))))) (fun y4_ => y4_.elim (fun x5_ => Or.inr (Or.inr (Or.inr (Or.inr (Or.inr (Or.inl (x5_))))))) (fun y5_ => Or.inr (Or.inr (Or.inr (Or.inr (Or.inr (Or.inr (Or.inl (y5_))))))))))))))), hfσ342 k_ j_ (fun w_ => h_ (w_.elim (fun x0_ => Or.inr (Or.inr (Or.inl (x0_)))) (fun y0_ => y0_.elim (fun x1_ => Or.inr (Or.inr (Or.inr (Or.inl (x1_))))) (fun y1_ => y1_.elim (fun x2_ => Or.inr (Or.inr (Or.inr (Or.inr (Or.inl (x2_)))))) (fun y2_ => y2_.elim (fun x3_ => Or.inr (Or.inr (Or.inr (Or.inr (Or.inr (Or.inl (x3_))))))) (fun y3_ => Or.inr (Or.inr (Or.inr (Or.inr (Or.inr (Or.inr (Or.inl (y3_)))))))))))))]), ⟨NX_tr hB.1 (gi488).1, RS_line (n := 1) hRS hc.symm (QX_qx hB hB2 gi488) (by omega) (fun j_ h_ => ⟨by rw [hfσ486 162 j_ (by omega), eσ475, dk_up_n (show ¬ (162 = 169 ∧ j_ = i) by omega), eσ470, dk_up_n (show ¬ (162 = 163 ∧ j_ = i) by omega), eσ429, dk_up_n (show ¬ (162 = 162 ∧ j_ = i) by omega), hfσ421 162 j_ (by omega), hfσ342 162 j_ (by omega)], by rw [hfσ486 163 j_ (by omega), eσ475, dk_up_n (show ¬ (163 = 169 ∧ j_ = i) by omega), eσ470, dk_up_n (show ¬ (163 = 163 ∧ j_ = i) by omega), eσ429, dk_up_n (show ¬ (163 = 162 ∧ j_ = i) by omega), hfσ421 163 j_ (by omega), hfσ342 163 j_ (by omega)], by rw [hfσ486 169 j_ (by omega), eσ475, dk_up_n (show ¬ (169 = 169 ∧ j_ = i) by omega), eσ470, dk_up_n (show ¬ (169 = 163 ∧ j_ = i) by omega), eσ429, dk_up_n (show ¬ (169 = 162 ∧ j_ = i) by omega), hfσ421 169 j_ (by omega), hfσ342 169 j_ (by omega)]⟩) (fun _ => ⟨by rw [← hi, hfσ486 162 i (by omega), eσ475, dk_up_n (show ¬ (162 = 169 ∧ i = i) by omega), eσ470, dk_up_n (show ¬ (162 = 163 ∧ i = i) by omega), eσ429, dk_up_s], by rw [← hi, hfσ486 163 i (by omega), eσ475, dk_up_n (show ¬ (163 = 169 ∧ i = i) by omega), eσ470, dk_up_s]; omega⟩), fun a_ q_ => Or.inr (by have x_ := (gi488).1.2.2.1; have t_ := hT.2.2 q_; have y_ := H85.2.2.1; omega)⟩⟩
        · skip
          refine dk_if_ne (tgt := 84) (pc' := 83) hE dX11_readRule_80 (by decide) rfl (fun hc490 => absurd hc490 (by decide)) (fun hc490 => ?_)
          have hz491 : σ 141 42 = c := by rw [hc]
          exact dk_vret (st := []) hE hR dX11_readRule_83 ⟨rfl, (fun k_ j_ h_ => rfl), ⟨((QX_of hT hRS.1 hc)).1, RS_fr hRS ((QX_of hT hRS.1 hc)).1 (fun k_ j_ h_ => rfl), fun a_ q_ => Or.inl (by omega)⟩⟩
      · skip
        refine dk_aload_n (pc' := 73) hE dX11_readRule_72 rfl rfl rfl ?_
        refine dk_cV (pc' := 76) (as := []) hE lk_X11_257 (ct_X11_wrong l G hGd) dX11_readRule_73 rfl is_141 rfl (by decide) (Nat.le_of_ble_eq_true rfl) rfl rfl (fun r493 σ492 hr493 hor493 => ?_)
        obtain ⟨rfl, hfσ492, hpr493⟩ := hr493
        have gi494 : QX c r σ σ492 := QX_f (QX_of hT hRS.1 hc) hfσ492 hpr493
        refine dk_aload_n (pc' := 77) hE dX11_readRule_76 rfl rfl rfl ?_
        refine dk_cV (pc' := 80) (as := []) hE lk_X11_250 (ct_X11_isGood l G hGd) dX11_readRule_77 rfl is_141 rfl (by decide) (Nat.le_of_ble_eq_true rfl) rfl rfl (fun r496 σ495 hr496 hor496 => ?_)
        obtain ⟨v497, rfl, hfσ495, hpr496⟩ := hr496
        have hsσ495 : σ492 = σ495 := (funext (fun k => funext (fun j => hfσ495 k j not_false))).symm
        subst hsσ495
        rcases hpr496 with ⟨rfl, hpr496⟩ | ⟨rfl, hpr496⟩
        · skip
          refine dk_if_ne (tgt := 84) (pc' := 83) hE dX11_readRule_80 (by decide) rfl (fun hc498 => ?_) (fun hc498 => absurd hc498 (by decide))
          refine dk_aload_n (pc' := 85) hE dX11_readRule_84 rfl rfl rfl ?_
          have hz499 : σ492 141 7 = σ 141 7 := by rw [hfσ492 141 7 (by omega)]
          have hz500 : σ492 141 3 = σ 141 3 := by rw [hfσ492 141 3 (by omega)]
          have hz501 : σ492 141 3 = σ 141 3 := by rw [hfσ492 141 3 (by omega)]
          refine dk_cV (pc' := 88) (as := []) hE lk_X11_254 (ct_X11_next l G hGd) dX11_readRule_85 rfl is_141 rfl (by decide) (Nat.le_of_ble_eq_true rfl) ⟨rfl, ((NX_tk (gi494).1).2.1), (by omega)⟩ rfl (fun r503 σ502 hr503 hor503 => ?_)
          obtain ⟨rfl, hfσ502, hpr503⟩ := hr503
          have H85 := hpr503
          have gi504 : QX c r σ σ502 := QX_y gi494 hpr503 (fun k_ j_ h_ => hfσ502 k_ j_ (by omega))
          have hB : QX c r σ σ502 := gi504
          have hB2 : σ502 141 42 = c := by rw [hfσ502 141 42 (by omega), hfσ492 141 42 (by omega)]; exact hc.symm
          have gi505 : QX c r σ502 σ502 := QX_of (NX_tk hB.1) hB.2.1 hB2.symm
          refine dk_iload_n (pc' := 89) hE dX11_readRule_88 rfl rfl rfl ?_
          refine dk_iconst (pc' := 90) hE dX11_readRule_89 (by decide) rfl ?_
          refine dk_icmp_eq (tgt := 104) (pc' := 93) hE dX11_readRule_90 (by decide) rfl (fun hc506 => absurd hc506 (by decide)) (fun hc506 => ?_)
          refine dk_aload_n (pc' := 94) hE dX11_readRule_93 rfl rfl rfl ?_
          refine dk_aload_n (pc' := 95) hE dX11_readRule_94 rfl rfl rfl ?_
          refine dk_ldc2 (pc' := 98) hE dX11_readRule_95 cs_X11_188 (by decide) rfl ?_
          refine dk_cV (pc' := 101) (as := [(3, 2003330414)]) hE lk_X11_281 (ct_X11_isWord l G hGd 2003330414) dX11_readRule_98 rfl is_141 rfl (by decide) (Nat.le_of_ble_eq_true rfl) rfl rfl (fun r508 σ507 hr508 hor508 => ?_)
          obtain ⟨v509, rfl, hfσ507, hpr508⟩ := hr508
          have hsσ507 : σ502 = σ507 := (funext (fun k => funext (fun j => hfσ507 k j not_false))).symm
          subst hsσ507
          rcases hpr508 with ⟨rfl, hpr508⟩ | rfl
          · skip
            have hz510 : σ502 141 3 = σ 141 3 := by rw [hfσ502 141 3 (by omega), hfσ492 141 3 (by omega)]
            refine dk_cV (pc' := 104) (as := [(0, 1)]) hE lk_X11_301 (ct_X11_must l G hGd 1) dX11_readRule_101 rfl is_141 rfl (by decide) (Nat.le_of_ble_eq_true rfl) ⟨rfl, (NX_tk (gi505).1), (by omega)⟩ rfl (fun r512 σ511 hr512 hor512 => ?_)
            obtain ⟨rfl, hfσ511, hpr512⟩ := hr512
            have gi513 : QX c r σ502 σ511 := QX_tr gi505 hpr512 (fun k_ j_ h_ => hfσ511 k_ j_ (by omega))
            obtain ⟨i, hi⟩ : ∃ i : Int, i = 3 * r + 1 := ⟨_, rfl⟩
            have gi514 : QX c r σ502 σ511 := gi513
            refine dk_aload_n (pc' := 105) hE dX11_readRule_104 rfl rfl rfl ?_
            refine gf_11_33 (pc' := 108) (w := 162) hE fl_X11_77 dX11_readRule_105 is_141 rfl rfl ?_
            refine dk_iconst (pc' := 109) hE dX11_readRule_108 (by decide) rfl ?_
            refine dk_aload_n (pc' := 110) hE dX11_readRule_109 rfl rfl rfl ?_
            refine gf_11_41 (pc' := 113) hE fl_X11_374 dX11_readRule_110 is_141 rfl (fun v515 hv515 htv515 hbv515 => ?_)
            have hq515 : v332 = v515 := (show v515 = v332 by rw [hv515, hfσ511 141 41 (by omega), hfσ502 141 41 (by omega), hfσ492 141 41 (by omega), hv332]).symm
            subst hq515
            clear htv515 hbv515
            obtain ⟨v516, hv516⟩ : ∃ z : Int, z = 3 * v332 := ⟨_, rfl⟩
            refine dk_imul (pc' := 114) hE dX11_readRule_113 hv516.symm (by omega) rfl ?_
            refine dk_iload_n (pc' := 115) hE dX11_readRule_114 rfl rfl rfl ?_
            obtain ⟨v517, hv517⟩ : ∃ z : Int, z = v516 + 1 := ⟨_, rfl⟩
            refine dk_iadd (pc' := 116) hE dX11_readRule_115 hv517.symm (by omega) rfl ?_
            have hrnv517 : i = v517 := by omega
            subst hrnv517
            refine dk_aload_n (pc' := 117) hE dX11_readRule_116 rfl rfl rfl ?_
            refine gf_11_42 (pc' := 120) hE fl_X11_377 dX11_readRule_117 is_141 rfl (fun v518 hv518 htv518 hbv518 => ?_)
            have hq518 : c = v518 := (show v518 = c by rw [hv518, hfσ511 141 42 (by omega), hfσ502 141 42 (by omega), hfσ492 141 42 (by omega), hc]).symm
            subst hq518
            clear htv518 hbv518
            refine pa_90 (pc' := 121) hE dX11_readRule_120 is_162 (by omega) trivial rfl (fun σ519 eσ519 => ?_)
            have gi520 : QX c r σ502 σ519 := QX_u gi514 (by omega) (by omega) eσ519
            refine dk_aload_n (pc' := 122) hE dX11_readRule_121 rfl rfl rfl ?_
            refine dk_cV (pc' := 125) (as := []) hE lk_X11_250 (ct_X11_isGood l G hGd) dX11_readRule_122 rfl is_141 rfl (by decide) (Nat.le_of_ble_eq_true rfl) rfl rfl (fun r522 σ521 hr522 hor522 => ?_)
            obtain ⟨v523, rfl, hfσ521, hpr522⟩ := hr522
            have hsσ521 : σ519 = σ521 := (funext (fun k => funext (fun j => hfσ521 k j not_false))).symm
            subst hsσ521
            rcases hpr522 with ⟨rfl, hpr522⟩ | ⟨rfl, hpr522⟩
            · skip
              refine dk_if_eq (tgt := 132) (pc' := 128) hE dX11_readRule_125 (by decide) rfl (fun hc524 => absurd hc524 (by decide)) (fun hc524 => ?_)
              refine dk_aload_n (pc' := 129) hE dX11_readRule_128 rfl rfl rfl ?_
              have hz525 : σ519 141 3 = σ 141 3 := by rw [eσ519, dk_up_n (show ¬ (141 = 162 ∧ 3 = i) by omega), hfσ511 141 3 (by omega), hfσ502 141 3 (by omega), hfσ492 141 3 (by omega)]
              have hz526 : σ519 141 42 = c := by rw [eσ519, dk_up_n (show ¬ (141 = 162 ∧ 42 = i) by omega), hv518]
              refine dk_cV (pc' := 132) (as := []) hE lk_X11_386 (ct_X11_e l G hGd c r) dX11_readRule_129 rfl is_141 rfl (by decide) (Nat.le_of_ble_eq_true rfl) ⟨rfl, (NX_tk (gi520).1), (by omega), ((gi520).2.1), (by omega), (by omega)⟩ rfl (fun r528 σ527 hr528 hor528 => ?_)
              obtain ⟨rfl, hfσ527, hpr528⟩ := hr528
              have hz529 : σ519 141 42 = c := by rw [eσ519, dk_up_n (show ¬ (141 = 162 ∧ 42 = i) by omega), hv518]
              have gi530 : QX c r σ502 σ527 := QX_qx gi520 (by omega) hpr528
              refine dk_aload_n (pc' := 133) hE dX11_readRule_132 rfl rfl rfl ?_
              refine gf_11_34 (pc' := 136) (w := 163) hE fl_X11_80 dX11_readRule_133 is_141 rfl rfl ?_
              refine dk_iconst (pc' := 137) hE dX11_readRule_136 (by decide) rfl ?_
              refine dk_aload_n (pc' := 138) hE dX11_readRule_137 rfl rfl rfl ?_
              refine gf_11_41 (pc' := 141) hE fl_X11_374 dX11_readRule_138 is_141 rfl (fun v531 hv531 htv531 hbv531 => ?_)
              have hq531 : v332 = v531 := (show v531 = v332 by rw [hv531, hfσ527 141 41 (by omega), eσ519, dk_up_n (show ¬ (141 = 162 ∧ 41 = i) by omega), hv515]).symm
              subst hq531
              clear htv531 hbv531
              obtain ⟨v532, hv532⟩ : ∃ z : Int, z = 3 * v332 := ⟨_, rfl⟩
              refine dk_imul (pc' := 142) hE dX11_readRule_141 hv532.symm (by omega) rfl ?_
              refine dk_iload_n (pc' := 143) hE dX11_readRule_142 rfl rfl rfl ?_
              obtain ⟨v533, hv533⟩ : ∃ z : Int, z = v532 + 1 := ⟨_, rfl⟩
              refine dk_iadd (pc' := 144) hE dX11_readRule_143 hv533.symm (by omega) rfl ?_
              have hrnv533 : i = v533 := by omega
              subst hrnv533
              refine dk_aload_n (pc' := 145) hE dX11_readRule_144 rfl rfl rfl ?_
              refine gf_11_42 (pc' := 148) hE fl_X11_377 dX11_readRule_145 is_141 rfl (fun v534 hv534 htv534 hbv534 => ?_)
              refine pa_91 (pc' := 149) hE dX11_readRule_148 is_163 (by omega) trivial rfl (fun σ535 eσ535 => ?_)
              have gi536 : QX c r σ502 σ535 := QX_u gi530 (by omega) (by omega) eσ535
              refine dk_aload_n (pc' := 150) hE dX11_readRule_149 rfl rfl rfl ?_
              refine gf_11_40 (pc' := 153) (w := 169) hE fl_X11_98 dX11_readRule_150 is_141 rfl rfl ?_
              refine dk_iconst (pc' := 154) hE dX11_readRule_153 (by decide) rfl ?_
              refine dk_aload_n (pc' := 155) hE dX11_readRule_154 rfl rfl rfl ?_
              refine gf_11_41 (pc' := 158) hE fl_X11_374 dX11_readRule_155 is_141 rfl (fun v537 hv537 htv537 hbv537 => ?_)
              have hq537 : v332 = v537 := (show v537 = v332 by rw [hv537, eσ535, dk_up_n (show ¬ (141 = 163 ∧ 41 = i) by omega), hv531]).symm
              subst hq537
              clear htv537 hbv537
              obtain ⟨v538, hv538⟩ : ∃ z : Int, z = 3 * v332 := ⟨_, rfl⟩
              refine dk_imul (pc' := 159) hE dX11_readRule_158 hv538.symm (by omega) rfl ?_
              refine dk_iload_n (pc' := 160) hE dX11_readRule_159 rfl rfl rfl ?_
              obtain ⟨v539, hv539⟩ : ∃ z : Int, z = v538 + 1 := ⟨_, rfl⟩
              refine dk_iadd (pc' := 161) hE dX11_readRule_160 hv539.symm (by omega) rfl ?_
              have hrnv539 : i = v539 := by omega
              subst hrnv539
              refine dk_iconst (pc' := 162) hE dX11_readRule_161 (by decide) rfl ?_
              refine pa_97 (pc' := 163) hE dX11_readRule_162 is_169 (by omega) (by omega) trivial rfl (fun σ540 eσ540 => ?_)
              have gi541 : QX c r σ502 σ540 := QX_u gi536 (by omega) (by omega) eσ540
              refine dk_aload_n (pc' := 164) hE dX11_readRule_163 rfl rfl rfl ?_
              refine dk_aload_n (pc' := 165) hE dX11_readRule_164 rfl rfl rfl ?_
              refine dk_bipush (pc' := 167) hE dX11_readRule_165 (by decide) rfl ?_
              refine dk_cV (pc' := 170) (as := [(0, 59)]) hE lk_X11_298 (ct_X11_is l G hGd 59) dX11_readRule_167 rfl is_141 rfl (by decide) (Nat.le_of_ble_eq_true rfl) rfl rfl (fun r543 σ542 hr543 hor543 => ?_)
              obtain ⟨v544, rfl, hfσ542, hpr543⟩ := hr543
              have hsσ542 : σ540 = σ542 := (funext (fun k => funext (fun j => hfσ542 k j not_false))).symm
              subst hsσ542
              rcases hpr543 with ⟨rfl, hpr543⟩ | rfl
              · skip
                have hz545 : σ540 141 3 = σ 141 3 := by rw [eσ540, dk_up_n (show ¬ (141 = 169 ∧ 3 = i) by omega), eσ535, dk_up_n (show ¬ (141 = 163 ∧ 3 = i) by omega), hfσ527 141 3 (by omega), eσ519, dk_up_n (show ¬ (141 = 162 ∧ 3 = i) by omega), hfσ511 141 3 (by omega), hfσ502 141 3 (by omega), hfσ492 141 3 (by omega)]
                refine dk_cV (pc' := 173) (as := [(0, 1)]) hE lk_X11_301 (ct_X11_must l G hGd 1) dX11_readRule_170 rfl is_141 rfl (by decide) (Nat.le_of_ble_eq_true rfl) ⟨rfl, (NX_tk (gi541).1), (by omega)⟩ rfl (fun r547 σ546 hr547 hor547 => ?_)
                obtain ⟨rfl, hfσ546, hpr547⟩ := hr547
                have gi548 : QX c r σ502 σ546 := QX_tr gi541 hpr547 (fun k_ j_ h_ => hfσ546 k_ j_ (by omega))
                have hz549 : σ546 141 42 = v534 := by rw [hfσ546 141 42 (by omega), eσ540, dk_up_n (show ¬ (141 = 169 ∧ 42 = i) by omega), eσ535, dk_up_n (show ¬ (141 = 163 ∧ 42 = i) by omega), hv534]
                exact dk_vret (st := []) hE hR dX11_readRule_173 ⟨rfl, (fun k_ j_ h_ => by rw [hfσ546 k_ j_ (fun w_ => h_ (w_.elim (fun x0_ => Or.inl (x0_)) (fun y0_ => y0_.elim (fun x1_ => Or.inr (Or.inl (x1_))) (fun y1_ => y1_.elim (fun x2_ => Or.inr (Or.inr (Or.inl (x2_)))) (fun y2_ => y2_.elim (fun x3_ => Or.inr (Or.inr (Or.inr (Or.inl (x3_))))) (fun y3_ => y3_.elim (fun x4_ => Or.inr (Or.inr (Or.inr (Or.inr (Or.inl (x4_)))))) (fun y4_ => y4_.elim (fun x5_ => Or.inr (Or.inr (Or.inr (Or.inr (Or.inr (Or.inl (x5_))))))) (fun y5_ => Or.inr (Or.inr (Or.inr (Or.inr (Or.inr (Or.inr (Or.inl (y5_))))))))))))))), eσ540, dk_up_n (show ¬ (k_ = 169 ∧ j_ = i) from fun q_ => h_ (Or.inr (Or.inr (Or.inr (Or.inr (Or.inr (Or.inr (Or.inr (Or.inr (Or.inr (Or.inr (Or.inr (Or.inr (Or.inr (q_.1))))))))))))))), eσ535, dk_up_n (show ¬ (k_ = 163 ∧ j_ = i) from fun q_ => h_ (Or.inr (Or.inr (Or.inr (Or.inr (Or.inr (Or.inr (Or.inr (Or.inr (Or.inr (Or.inr (Or.inr (Or.inr (Or.inl (dk_wr (lo := 162) (hi := 163) q_.1 (by decide)))))))))))))))), hfσ527 k_ j_ (fun w_ => h_ (w_.elim (fun x0_ => Or.inl (x0_)) (fun y0_ => y0_.elim (fun x1_ => Or.inr (Or.inl (x1_))) (fun y1_ => y1_.elim (fun x2_ => Or.inr (Or.inr (Or.inl (x2_)))) (fun y2_ => y2_.elim (fun x3_ => Or.inr (Or.inr (Or.inr (Or.inl (x3_))))) (fun y3_ => y3_.elim (fun x4_ => Or.inr (Or.inr (Or.inr (Or.inr (Or.inl (x4_)))))) (fun y4_ => y4_.elim (fun x5_ => Or.inr (Or.inr (Or.inr (Or.inr (Or.inr (Or.inl (x5_))))))) (fun y5_ => y5_.elim (fun x6_ => Or.inr (Or.inr (Or.inr (Or.inr (Or.inr (Or.inr (Or.inl (x6_)))))))) (fun y6_ => y6_.elim (fun x7_ => Or.inr (Or.inr (Or.inr (Or.inr (Or.inr (Or.inr (Or.inr (Or.inl (x7_))))))))) (fun y7_ => y7_.elim (fun x8_ => Or.inr (Or.inr (Or.inr (Or.inr (Or.inr (Or.inr (Or.inr (Or.inr (Or.inl (x8_)))))))))) (fun y8_ => y8_.elim (fun x9_ => Or.inr (Or.inr (Or.inr (Or.inr (Or.inr (Or.inr (Or.inr (Or.inr (Or.inr (Or.inl (x9_))))))))))) (fun y9_ => y9_.elim (fun x10_ => Or.inr (Or.inr (Or.inr (Or.inr (Or.inr (Or.inr (Or.inr (Or.inr (Or.inr (Or.inr (Or.inl (x10_)))))))))))) (fun y10_ => Or.inr (Or.inr (Or.inr (Or.inr (Or.inr (Or.inr (Or.inr (Or.inr (Or.inr (Or.inr (Or.inr (Or.inl (y10_))))))))))))))))))))))))), eσ519, dk_up_n (show ¬ (k_ = 162 ∧ j_ = i) from fun q_ => h_ (Or.inr (Or.inr (Or.inr (Or.inr (Or.inr (Or.inr (Or.inr (Or.inr (Or.inr (Or.inr (Or.inr (Or.inr (Or.inl (dk_wr (lo := 162) (hi := 163) q_.1 (by decide)))))))))))))))), hfσ511 k_ j_ (fun w_ => h_ (w_.elim (fun x0_ => Or.inl (x0_)) (fun y0_ => y0_.elim (fun x1_ => Or.inr (Or.inl (x1_))) (fun y1_ => y1_.elim (fun x2_ => Or.inr (Or.inr (Or.inl (x2_)))) (fun y2_ => y2_.elim (fun x3_ => Or.inr (Or.inr (Or.inr (Or.inl (x3_))))) (fun y3_ => y3_.elim (fun x4_ => Or.inr (Or.inr (Or.inr (Or.inr (Or.inl (x4_)))))) (fun y4_ => y4_.elim (fun x5_ => Or.inr (Or.inr (Or.inr (Or.inr (Or.inr (Or.inl (x5_))))))) (fun y5_ => Or.inr (Or.inr (Or.inr (Or.inr (Or.inr (Or.inr (Or.inl (y5_))))))))))))))), hfσ502 k_ j_ (fun w_ => h_ (w_.elim (fun x0_ => Or.inr (Or.inr (Or.inl (x0_)))) (fun y0_ => y0_.elim (fun x1_ => Or.inr (Or.inr (Or.inr (Or.inl (x1_))))) (fun y1_ => y1_.elim (fun x2_ => Or.inr (Or.inr (Or.inr (Or.inr (Or.inl (x2_)))))) (fun y2_ => y2_.elim (fun x3_ => Or.inr (Or.inr (Or.inr (Or.inr (Or.inr (Or.inl (x3_))))))) (fun y3_ => Or.inr (Or.inr (Or.inr (Or.inr (Or.inr (Or.inr (Or.inl (y3_))))))))))))), hfσ492 k_ j_ (fun w_ => h_ (w_.elim (fun x0_ => Or.inl (x0_)) (fun y0_ => Or.inr (Or.inl (y0_)))))]), ⟨NX_tr hB.1 (gi548).1, RS_line (n := 1) hRS hc.symm (QX_qx hB hB2 gi548) (by omega) (fun j_ h_ => ⟨by rw [hfσ546 162 j_ (by omega), eσ540, dk_up_n (show ¬ (162 = 169 ∧ j_ = i) by omega), eσ535, dk_up_n (show ¬ (162 = 163 ∧ j_ = i) by omega), hfσ527 162 j_ (by omega), eσ519, dk_up_n (show ¬ (162 = 162 ∧ j_ = i) by omega), hfσ511 162 j_ (by omega), hfσ502 162 j_ (by omega), hfσ492 162 j_ (by omega)], by rw [hfσ546 163 j_ (by omega), eσ540, dk_up_n (show ¬ (163 = 169 ∧ j_ = i) by omega), eσ535, dk_up_n (show ¬ (163 = 163 ∧ j_ = i) by omega), hfσ527 163 j_ (by omega), eσ519, dk_up_n (show ¬ (163 = 162 ∧ j_ = i) by omega), hfσ511 163 j_ (by omega), hfσ502 163 j_ (by omega), hfσ492 163 j_ (by omega)], by rw [hfσ546 169 j_ (by omega), eσ540, dk_up_n (show ¬ (169 = 169 ∧ j_ = i) by omega), eσ535, dk_up_n (show ¬ (169 = 163 ∧ j_ = i) by omega), hfσ527 169 j_ (by omega), eσ519, dk_up_n (show ¬ (169 = 162 ∧ j_ = i) by omega), hfσ511 169 j_ (by omega), hfσ502 169 j_ (by omega), hfσ492 169 j_ (by omega)]⟩) (fun _ => ⟨by rw [← hi, hfσ546 162 i (by omega), eσ540, dk_up_n (show ¬ (162 = 169 ∧ i = i) by omega), eσ535, dk_up_n (show ¬ (162 = 163 ∧ i = i) by omega), hfσ527 162 i (by omega), eσ519, dk_up_s], by rw [← hi, hfσ546 163 i (by omega), eσ540, dk_up_n (show ¬ (163 = 169 ∧ i = i) by omega), eσ535, dk_up_s]; omega⟩), fun a_ q_ => Or.inr (by have x_ := (gi548).1.2.2.1; have t_ := hT.2.2 q_; have y_ := H85.2.2.1; omega)⟩⟩
              · skip
                have hz550 : σ540 141 3 = σ 141 3 := by rw [eσ540, dk_up_n (show ¬ (141 = 169 ∧ 3 = i) by omega), eσ535, dk_up_n (show ¬ (141 = 163 ∧ 3 = i) by omega), hfσ527 141 3 (by omega), eσ519, dk_up_n (show ¬ (141 = 162 ∧ 3 = i) by omega), hfσ511 141 3 (by omega), hfσ502 141 3 (by omega), hfσ492 141 3 (by omega)]
                refine dk_cV (pc' := 173) (as := [(0, 0)]) hE lk_X11_301 (ct_X11_must l G hGd 0) dX11_readRule_170 rfl is_141 rfl (by decide) (Nat.le_of_ble_eq_true rfl) ⟨rfl, (NX_tk (gi541).1), (by omega)⟩ rfl (fun r552 σ551 hr552 hor552 => ?_)
                obtain ⟨rfl, hfσ551, hpr552⟩ := hr552
                have gi553 : QX c r σ502 σ551 := QX_tr gi541 hpr552 (fun k_ j_ h_ => hfσ551 k_ j_ (by omega))
                have hz554 : σ551 141 42 = v534 := by rw [hfσ551 141 42 (by omega), eσ540, dk_up_n (show ¬ (141 = 169 ∧ 42 = i) by omega), eσ535, dk_up_n (show ¬ (141 = 163 ∧ 42 = i) by omega), hv534]
                exact dk_vret (st := []) hE hR dX11_readRule_173 ⟨rfl, (fun k_ j_ h_ => by rw [hfσ551 k_ j_ (fun w_ => h_ (w_.elim (fun x0_ => Or.inl (x0_)) (fun y0_ => y0_.elim (fun x1_ => Or.inr (Or.inl (x1_))) (fun y1_ => y1_.elim (fun x2_ => Or.inr (Or.inr (Or.inl (x2_)))) (fun y2_ => y2_.elim (fun x3_ => Or.inr (Or.inr (Or.inr (Or.inl (x3_))))) (fun y3_ => y3_.elim (fun x4_ => Or.inr (Or.inr (Or.inr (Or.inr (Or.inl (x4_)))))) (fun y4_ => y4_.elim (fun x5_ => Or.inr (Or.inr (Or.inr (Or.inr (Or.inr (Or.inl (x5_))))))) (fun y5_ => Or.inr (Or.inr (Or.inr (Or.inr (Or.inr (Or.inr (Or.inl (y5_))))))))))))))), eσ540, dk_up_n (show ¬ (k_ = 169 ∧ j_ = i) from fun q_ => h_ (Or.inr (Or.inr (Or.inr (Or.inr (Or.inr (Or.inr (Or.inr (Or.inr (Or.inr (Or.inr (Or.inr (Or.inr (Or.inr (q_.1))))))))))))))), eσ535, dk_up_n (show ¬ (k_ = 163 ∧ j_ = i) from fun q_ => h_ (Or.inr (Or.inr (Or.inr (Or.inr (Or.inr (Or.inr (Or.inr (Or.inr (Or.inr (Or.inr (Or.inr (Or.inr (Or.inl (dk_wr (lo := 162) (hi := 163) q_.1 (by decide)))))))))))))))), hfσ527 k_ j_ (fun w_ => h_ (w_.elim (fun x0_ => Or.inl (x0_)) (fun y0_ => y0_.elim (fun x1_ => Or.inr (Or.inl (x1_))) (fun y1_ => y1_.elim (fun x2_ => Or.inr (Or.inr (Or.inl (x2_)))) (fun y2_ => y2_.elim (fun x3_ => Or.inr (Or.inr (Or.inr (Or.inl (x3_))))) (fun y3_ => y3_.elim (fun x4_ => Or.inr (Or.inr (Or.inr (Or.inr (Or.inl (x4_)))))) (fun y4_ => y4_.elim (fun x5_ => Or.inr (Or.inr (Or.inr (Or.inr (Or.inr (Or.inl (x5_))))))) (fun y5_ => y5_.elim (fun x6_ => Or.inr (Or.inr (Or.inr (Or.inr (Or.inr (Or.inr (Or.inl (x6_)))))))) (fun y6_ => y6_.elim (fun x7_ => Or.inr (Or.inr (Or.inr (Or.inr (Or.inr (Or.inr (Or.inr (Or.inl (x7_))))))))) (fun y7_ => y7_.elim (fun x8_ => Or.inr (Or.inr (Or.inr (Or.inr (Or.inr (Or.inr (Or.inr (Or.inr (Or.inl (x8_)))))))))) (fun y8_ => y8_.elim (fun x9_ => Or.inr (Or.inr (Or.inr (Or.inr (Or.inr (Or.inr (Or.inr (Or.inr (Or.inr (Or.inl (x9_))))))))))) (fun y9_ => y9_.elim (fun x10_ => Or.inr (Or.inr (Or.inr (Or.inr (Or.inr (Or.inr (Or.inr (Or.inr (Or.inr (Or.inr (Or.inl (x10_)))))))))))) (fun y10_ => Or.inr (Or.inr (Or.inr (Or.inr (Or.inr (Or.inr (Or.inr (Or.inr (Or.inr (Or.inr (Or.inr (Or.inl (y10_))))))))))))))))))))))))), eσ519, dk_up_n (show ¬ (k_ = 162 ∧ j_ = i) from fun q_ => h_ (Or.inr (Or.inr (Or.inr (Or.inr (Or.inr (Or.inr (Or.inr (Or.inr (Or.inr (Or.inr (Or.inr (Or.inr (Or.inl (dk_wr (lo := 162) (hi := 163) q_.1 (by decide)))))))))))))))), hfσ511 k_ j_ (fun w_ => h_ (w_.elim (fun x0_ => Or.inl (x0_)) (fun y0_ => y0_.elim (fun x1_ => Or.inr (Or.inl (x1_))) (fun y1_ => y1_.elim (fun x2_ => Or.inr (Or.inr (Or.inl (x2_)))) (fun y2_ => y2_.elim (fun x3_ => Or.inr (Or.inr (Or.inr (Or.inl (x3_))))) (fun y3_ => y3_.elim (fun x4_ => Or.inr (Or.inr (Or.inr (Or.inr (Or.inl (x4_)))))) (fun y4_ => y4_.elim (fun x5_ => Or.inr (Or.inr (Or.inr (Or.inr (Or.inr (Or.inl (x5_))))))) (fun y5_ => Or.inr (Or.inr (Or.inr (Or.inr (Or.inr (Or.inr (Or.inl (y5_))))))))))))))), hfσ502 k_ j_ (fun w_ => h_ (w_.elim (fun x0_ => Or.inr (Or.inr (Or.inl (x0_)))) (fun y0_ => y0_.elim (fun x1_ => Or.inr (Or.inr (Or.inr (Or.inl (x1_))))) (fun y1_ => y1_.elim (fun x2_ => Or.inr (Or.inr (Or.inr (Or.inr (Or.inl (x2_)))))) (fun y2_ => y2_.elim (fun x3_ => Or.inr (Or.inr (Or.inr (Or.inr (Or.inr (Or.inl (x3_))))))) (fun y3_ => Or.inr (Or.inr (Or.inr (Or.inr (Or.inr (Or.inr (Or.inl (y3_))))))))))))), hfσ492 k_ j_ (fun w_ => h_ (w_.elim (fun x0_ => Or.inl (x0_)) (fun y0_ => Or.inr (Or.inl (y0_)))))]), ⟨NX_tr hB.1 (gi553).1, RS_line (n := 1) hRS hc.symm (QX_qx hB hB2 gi553) (by omega) (fun j_ h_ => ⟨by rw [hfσ551 162 j_ (by omega), eσ540, dk_up_n (show ¬ (162 = 169 ∧ j_ = i) by omega), eσ535, dk_up_n (show ¬ (162 = 163 ∧ j_ = i) by omega), hfσ527 162 j_ (by omega), eσ519, dk_up_n (show ¬ (162 = 162 ∧ j_ = i) by omega), hfσ511 162 j_ (by omega), hfσ502 162 j_ (by omega), hfσ492 162 j_ (by omega)], by rw [hfσ551 163 j_ (by omega), eσ540, dk_up_n (show ¬ (163 = 169 ∧ j_ = i) by omega), eσ535, dk_up_n (show ¬ (163 = 163 ∧ j_ = i) by omega), hfσ527 163 j_ (by omega), eσ519, dk_up_n (show ¬ (163 = 162 ∧ j_ = i) by omega), hfσ511 163 j_ (by omega), hfσ502 163 j_ (by omega), hfσ492 163 j_ (by omega)], by rw [hfσ551 169 j_ (by omega), eσ540, dk_up_n (show ¬ (169 = 169 ∧ j_ = i) by omega), eσ535, dk_up_n (show ¬ (169 = 163 ∧ j_ = i) by omega), hfσ527 169 j_ (by omega), eσ519, dk_up_n (show ¬ (169 = 162 ∧ j_ = i) by omega), hfσ511 169 j_ (by omega), hfσ502 169 j_ (by omega), hfσ492 169 j_ (by omega)]⟩) (fun _ => ⟨by rw [← hi, hfσ551 162 i (by omega), eσ540, dk_up_n (show ¬ (162 = 169 ∧ i = i) by omega), eσ535, dk_up_n (show ¬ (162 = 163 ∧ i = i) by omega), hfσ527 162 i (by omega), eσ519, dk_up_s], by rw [← hi, hfσ551 163 i (by omega), eσ540, dk_up_n (show ¬ (163 = 169 ∧ i = i) by omega), eσ535, dk_up_s]; omega⟩), fun a_ q_ => Or.inr (by have x_ := (gi553).1.2.2.1; have t_ := hT.2.2 q_; have y_ := H85.2.2.1; omega)⟩⟩
            · skip
              refine dk_if_eq (tgt := 132) (pc' := 128) hE dX11_readRule_125 (by decide) rfl (fun hc555 => ?_) (fun hc555 => absurd hc555 (by decide))
              refine dk_aload_n (pc' := 133) hE dX11_readRule_132 rfl rfl rfl ?_
              refine gf_11_34 (pc' := 136) (w := 163) hE fl_X11_80 dX11_readRule_133 is_141 rfl rfl ?_
              refine dk_iconst (pc' := 137) hE dX11_readRule_136 (by decide) rfl ?_
              refine dk_aload_n (pc' := 138) hE dX11_readRule_137 rfl rfl rfl ?_
              refine gf_11_41 (pc' := 141) hE fl_X11_374 dX11_readRule_138 is_141 rfl (fun v556 hv556 htv556 hbv556 => ?_)
              have hq556 : v332 = v556 := (show v556 = v332 by rw [hv556, eσ519, dk_up_n (show ¬ (141 = 162 ∧ 41 = i) by omega), hv515]).symm
              subst hq556
              clear htv556 hbv556
              obtain ⟨v557, hv557⟩ : ∃ z : Int, z = 3 * v332 := ⟨_, rfl⟩
              refine dk_imul (pc' := 142) hE dX11_readRule_141 hv557.symm (by omega) rfl ?_
              refine dk_iload_n (pc' := 143) hE dX11_readRule_142 rfl rfl rfl ?_
              obtain ⟨v558, hv558⟩ : ∃ z : Int, z = v557 + 1 := ⟨_, rfl⟩
              refine dk_iadd (pc' := 144) hE dX11_readRule_143 hv558.symm (by omega) rfl ?_
              have hrnv558 : i = v558 := by omega
              subst hrnv558
              refine dk_aload_n (pc' := 145) hE dX11_readRule_144 rfl rfl rfl ?_
              refine gf_11_42 (pc' := 148) hE fl_X11_377 dX11_readRule_145 is_141 rfl (fun v559 hv559 htv559 hbv559 => ?_)
              have hq559 : c = v559 := (show v559 = c by rw [hv559, eσ519, dk_up_n (show ¬ (141 = 162 ∧ 42 = i) by omega), hv518]).symm
              subst hq559
              clear htv559 hbv559
              refine pa_91 (pc' := 149) hE dX11_readRule_148 is_163 (by omega) trivial rfl (fun σ560 eσ560 => ?_)
              have gi561 : QX c r σ502 σ560 := QX_u gi520 (by omega) (by omega) eσ560
              refine dk_aload_n (pc' := 150) hE dX11_readRule_149 rfl rfl rfl ?_
              refine gf_11_40 (pc' := 153) (w := 169) hE fl_X11_98 dX11_readRule_150 is_141 rfl rfl ?_
              refine dk_iconst (pc' := 154) hE dX11_readRule_153 (by decide) rfl ?_
              refine dk_aload_n (pc' := 155) hE dX11_readRule_154 rfl rfl rfl ?_
              refine gf_11_41 (pc' := 158) hE fl_X11_374 dX11_readRule_155 is_141 rfl (fun v562 hv562 htv562 hbv562 => ?_)
              have hq562 : v332 = v562 := (show v562 = v332 by rw [hv562, eσ560, dk_up_n (show ¬ (141 = 163 ∧ 41 = i) by omega), hv556]).symm
              subst hq562
              clear htv562 hbv562
              obtain ⟨v563, hv563⟩ : ∃ z : Int, z = 3 * v332 := ⟨_, rfl⟩
              refine dk_imul (pc' := 159) hE dX11_readRule_158 hv563.symm (by omega) rfl ?_
              refine dk_iload_n (pc' := 160) hE dX11_readRule_159 rfl rfl rfl ?_
              obtain ⟨v564, hv564⟩ : ∃ z : Int, z = v563 + 1 := ⟨_, rfl⟩
              refine dk_iadd (pc' := 161) hE dX11_readRule_160 hv564.symm (by omega) rfl ?_
              have hrnv564 : i = v564 := by omega
              subst hrnv564
              refine dk_iconst (pc' := 162) hE dX11_readRule_161 (by decide) rfl ?_
              refine pa_97 (pc' := 163) hE dX11_readRule_162 is_169 (by omega) (by omega) trivial rfl (fun σ565 eσ565 => ?_)
              have gi566 : QX c r σ502 σ565 := QX_u gi561 (by omega) (by omega) eσ565
              refine dk_aload_n (pc' := 164) hE dX11_readRule_163 rfl rfl rfl ?_
              refine dk_aload_n (pc' := 165) hE dX11_readRule_164 rfl rfl rfl ?_
              refine dk_bipush (pc' := 167) hE dX11_readRule_165 (by decide) rfl ?_
              refine dk_cV (pc' := 170) (as := [(0, 59)]) hE lk_X11_298 (ct_X11_is l G hGd 59) dX11_readRule_167 rfl is_141 rfl (by decide) (Nat.le_of_ble_eq_true rfl) rfl rfl (fun r568 σ567 hr568 hor568 => ?_)
              obtain ⟨v569, rfl, hfσ567, hpr568⟩ := hr568
              have hsσ567 : σ565 = σ567 := (funext (fun k => funext (fun j => hfσ567 k j not_false))).symm
              subst hsσ567
              rcases hpr568 with ⟨rfl, hpr568⟩ | rfl
              · skip
                have hz570 : σ565 141 3 = σ 141 3 := by rw [eσ565, dk_up_n (show ¬ (141 = 169 ∧ 3 = i) by omega), eσ560, dk_up_n (show ¬ (141 = 163 ∧ 3 = i) by omega), eσ519, dk_up_n (show ¬ (141 = 162 ∧ 3 = i) by omega), hfσ511 141 3 (by omega), hfσ502 141 3 (by omega), hfσ492 141 3 (by omega)]
                refine dk_cV (pc' := 173) (as := [(0, 1)]) hE lk_X11_301 (ct_X11_must l G hGd 1) dX11_readRule_170 rfl is_141 rfl (by decide) (Nat.le_of_ble_eq_true rfl) ⟨rfl, (NX_tk (gi566).1), (by omega)⟩ rfl (fun r572 σ571 hr572 hor572 => ?_)
                obtain ⟨rfl, hfσ571, hpr572⟩ := hr572
                have gi573 : QX c r σ502 σ571 := QX_tr gi566 hpr572 (fun k_ j_ h_ => hfσ571 k_ j_ (by omega))
                have hz574 : σ571 141 42 = c := by rw [hfσ571 141 42 (by omega), eσ565, dk_up_n (show ¬ (141 = 169 ∧ 42 = i) by omega), eσ560, dk_up_n (show ¬ (141 = 163 ∧ 42 = i) by omega), hv559]
                exact dk_vret (st := []) hE hR dX11_readRule_173 ⟨rfl, (fun k_ j_ h_ => by rw [hfσ571 k_ j_ (fun w_ => h_ (w_.elim (fun x0_ => Or.inl (x0_)) (fun y0_ => y0_.elim (fun x1_ => Or.inr (Or.inl (x1_))) (fun y1_ => y1_.elim (fun x2_ => Or.inr (Or.inr (Or.inl (x2_)))) (fun y2_ => y2_.elim (fun x3_ => Or.inr (Or.inr (Or.inr (Or.inl (x3_))))) (fun y3_ => y3_.elim (fun x4_ => Or.inr (Or.inr (Or.inr (Or.inr (Or.inl (x4_)))))) (fun y4_ => y4_.elim (fun x5_ => Or.inr (Or.inr (Or.inr (Or.inr (Or.inr (Or.inl (x5_))))))) (fun y5_ => Or.inr (Or.inr (Or.inr (Or.inr (Or.inr (Or.inr (Or.inl (y5_))))))))))))))), eσ565, dk_up_n (show ¬ (k_ = 169 ∧ j_ = i) from fun q_ => h_ (Or.inr (Or.inr (Or.inr (Or.inr (Or.inr (Or.inr (Or.inr (Or.inr (Or.inr (Or.inr (Or.inr (Or.inr (Or.inr (q_.1))))))))))))))), eσ560, dk_up_n (show ¬ (k_ = 163 ∧ j_ = i) from fun q_ => h_ (Or.inr (Or.inr (Or.inr (Or.inr (Or.inr (Or.inr (Or.inr (Or.inr (Or.inr (Or.inr (Or.inr (Or.inr (Or.inl (dk_wr (lo := 162) (hi := 163) q_.1 (by decide)))))))))))))))), eσ519, dk_up_n (show ¬ (k_ = 162 ∧ j_ = i) from fun q_ => h_ (Or.inr (Or.inr (Or.inr (Or.inr (Or.inr (Or.inr (Or.inr (Or.inr (Or.inr (Or.inr (Or.inr (Or.inr (Or.inl (dk_wr (lo := 162) (hi := 163) q_.1 (by decide)))))))))))))))), hfσ511 k_ j_ (fun w_ => h_ (w_.elim (fun x0_ => Or.inl (x0_)) (fun y0_ => y0_.elim (fun x1_ => Or.inr (Or.inl (x1_))) (fun y1_ => y1_.elim (fun x2_ => Or.inr (Or.inr (Or.inl (x2_)))) (fun y2_ => y2_.elim (fun x3_ => Or.inr (Or.inr (Or.inr (Or.inl (x3_))))) (fun y3_ => y3_.elim (fun x4_ => Or.inr (Or.inr (Or.inr (Or.inr (Or.inl (x4_)))))) (fun y4_ => y4_.elim (fun x5_ => Or.inr (Or.inr (Or.inr (Or.inr (Or.inr (Or.inl (x5_))))))) (fun y5_ => Or.inr (Or.inr (Or.inr (Or.inr (Or.inr (Or.inr (Or.inl (y5_))))))))))))))), hfσ502 k_ j_ (fun w_ => h_ (w_.elim (fun x0_ => Or.inr (Or.inr (Or.inl (x0_)))) (fun y0_ => y0_.elim (fun x1_ => Or.inr (Or.inr (Or.inr (Or.inl (x1_))))) (fun y1_ => y1_.elim (fun x2_ => Or.inr (Or.inr (Or.inr (Or.inr (Or.inl (x2_)))))) (fun y2_ => y2_.elim (fun x3_ => Or.inr (Or.inr (Or.inr (Or.inr (Or.inr (Or.inl (x3_))))))) (fun y3_ => Or.inr (Or.inr (Or.inr (Or.inr (Or.inr (Or.inr (Or.inl (y3_))))))))))))), hfσ492 k_ j_ (fun w_ => h_ (w_.elim (fun x0_ => Or.inl (x0_)) (fun y0_ => Or.inr (Or.inl (y0_)))))]), ⟨NX_tr hB.1 (gi573).1, RS_line (n := 1) hRS hc.symm (QX_qx hB hB2 gi573) (by omega) (fun j_ h_ => ⟨by rw [hfσ571 162 j_ (by omega), eσ565, dk_up_n (show ¬ (162 = 169 ∧ j_ = i) by omega), eσ560, dk_up_n (show ¬ (162 = 163 ∧ j_ = i) by omega), eσ519, dk_up_n (show ¬ (162 = 162 ∧ j_ = i) by omega), hfσ511 162 j_ (by omega), hfσ502 162 j_ (by omega), hfσ492 162 j_ (by omega)], by rw [hfσ571 163 j_ (by omega), eσ565, dk_up_n (show ¬ (163 = 169 ∧ j_ = i) by omega), eσ560, dk_up_n (show ¬ (163 = 163 ∧ j_ = i) by omega), eσ519, dk_up_n (show ¬ (163 = 162 ∧ j_ = i) by omega), hfσ511 163 j_ (by omega), hfσ502 163 j_ (by omega), hfσ492 163 j_ (by omega)], by rw [hfσ571 169 j_ (by omega), eσ565, dk_up_n (show ¬ (169 = 169 ∧ j_ = i) by omega), eσ560, dk_up_n (show ¬ (169 = 163 ∧ j_ = i) by omega), eσ519, dk_up_n (show ¬ (169 = 162 ∧ j_ = i) by omega), hfσ511 169 j_ (by omega), hfσ502 169 j_ (by omega), hfσ492 169 j_ (by omega)]⟩) (fun _ => ⟨by rw [← hi, hfσ571 162 i (by omega), eσ565, dk_up_n (show ¬ (162 = 169 ∧ i = i) by omega), eσ560, dk_up_n (show ¬ (162 = 163 ∧ i = i) by omega), eσ519, dk_up_s], by rw [← hi, hfσ571 163 i (by omega), eσ565, dk_up_n (show ¬ (163 = 169 ∧ i = i) by omega), eσ560, dk_up_s]; omega⟩), fun a_ q_ => Or.inr (by have x_ := (gi573).1.2.2.1; have t_ := hT.2.2 q_; have y_ := H85.2.2.1; omega)⟩⟩
              · skip
                have hz575 : σ565 141 3 = σ 141 3 := by rw [eσ565, dk_up_n (show ¬ (141 = 169 ∧ 3 = i) by omega), eσ560, dk_up_n (show ¬ (141 = 163 ∧ 3 = i) by omega), eσ519, dk_up_n (show ¬ (141 = 162 ∧ 3 = i) by omega), hfσ511 141 3 (by omega), hfσ502 141 3 (by omega), hfσ492 141 3 (by omega)]
                refine dk_cV (pc' := 173) (as := [(0, 0)]) hE lk_X11_301 (ct_X11_must l G hGd 0) dX11_readRule_170 rfl is_141 rfl (by decide) (Nat.le_of_ble_eq_true rfl) ⟨rfl, (NX_tk (gi566).1), (by omega)⟩ rfl (fun r577 σ576 hr577 hor577 => ?_)
                obtain ⟨rfl, hfσ576, hpr577⟩ := hr577
                have gi578 : QX c r σ502 σ576 := QX_tr gi566 hpr577 (fun k_ j_ h_ => hfσ576 k_ j_ (by omega))
                have hz579 : σ576 141 42 = c := by rw [hfσ576 141 42 (by omega), eσ565, dk_up_n (show ¬ (141 = 169 ∧ 42 = i) by omega), eσ560, dk_up_n (show ¬ (141 = 163 ∧ 42 = i) by omega), hv559]
                exact dk_vret (st := []) hE hR dX11_readRule_173 ⟨rfl, (fun k_ j_ h_ => by rw [hfσ576 k_ j_ (fun w_ => h_ (w_.elim (fun x0_ => Or.inl (x0_)) (fun y0_ => y0_.elim (fun x1_ => Or.inr (Or.inl (x1_))) (fun y1_ => y1_.elim (fun x2_ => Or.inr (Or.inr (Or.inl (x2_)))) (fun y2_ => y2_.elim (fun x3_ => Or.inr (Or.inr (Or.inr (Or.inl (x3_))))) (fun y3_ => y3_.elim (fun x4_ => Or.inr (Or.inr (Or.inr (Or.inr (Or.inl (x4_)))))) (fun y4_ => y4_.elim (fun x5_ => Or.inr (Or.inr (Or.inr (Or.inr (Or.inr (Or.inl (x5_))))))) (fun y5_ => Or.inr (Or.inr (Or.inr (Or.inr (Or.inr (Or.inr (Or.inl (y5_))))))))))))))), eσ565, dk_up_n (show ¬ (k_ = 169 ∧ j_ = i) from fun q_ => h_ (Or.inr (Or.inr (Or.inr (Or.inr (Or.inr (Or.inr (Or.inr (Or.inr (Or.inr (Or.inr (Or.inr (Or.inr (Or.inr (q_.1))))))))))))))), eσ560, dk_up_n (show ¬ (k_ = 163 ∧ j_ = i) from fun q_ => h_ (Or.inr (Or.inr (Or.inr (Or.inr (Or.inr (Or.inr (Or.inr (Or.inr (Or.inr (Or.inr (Or.inr (Or.inr (Or.inl (dk_wr (lo := 162) (hi := 163) q_.1 (by decide)))))))))))))))), eσ519, dk_up_n (show ¬ (k_ = 162 ∧ j_ = i) from fun q_ => h_ (Or.inr (Or.inr (Or.inr (Or.inr (Or.inr (Or.inr (Or.inr (Or.inr (Or.inr (Or.inr (Or.inr (Or.inr (Or.inl (dk_wr (lo := 162) (hi := 163) q_.1 (by decide)))))))))))))))), hfσ511 k_ j_ (fun w_ => h_ (w_.elim (fun x0_ => Or.inl (x0_)) (fun y0_ => y0_.elim (fun x1_ => Or.inr (Or.inl (x1_))) (fun y1_ => y1_.elim (fun x2_ => Or.inr (Or.inr (Or.inl (x2_)))) (fun y2_ => y2_.elim (fun x3_ => Or.inr (Or.inr (Or.inr (Or.inl (x3_))))) (fun y3_ => y3_.elim (fun x4_ => Or.inr (Or.inr (Or.inr (Or.inr (Or.inl (x4_)))))) (fun y4_ => y4_.elim (fun x5_ => Or.inr (Or.inr (Or.inr (Or.inr (Or.inr (Or.inl (x5_))))))) (fun y5_ => Or.inr (Or.inr (Or.inr (Or.inr (Or.inr (Or.inr (Or.inl (y5_))))))))))))))), hfσ502 k_ j_ (fun w_ => h_ (w_.elim (fun x0_ => Or.inr (Or.inr (Or.inl (x0_)))) (fun y0_ => y0_.elim (fun x1_ => Or.inr (Or.inr (Or.inr (Or.inl (x1_))))) (fun y1_ => y1_.elim (fun x2_ => Or.inr (Or.inr (Or.inr (Or.inr (Or.inl (x2_)))))) (fun y2_ => y2_.elim (fun x3_ => Or.inr (Or.inr (Or.inr (Or.inr (Or.inr (Or.inl (x3_))))))) (fun y3_ => Or.inr (Or.inr (Or.inr (Or.inr (Or.inr (Or.inr (Or.inl (y3_))))))))))))), hfσ492 k_ j_ (fun w_ => h_ (w_.elim (fun x0_ => Or.inl (x0_)) (fun y0_ => Or.inr (Or.inl (y0_)))))]), ⟨NX_tr hB.1 (gi578).1, RS_line (n := 1) hRS hc.symm (QX_qx hB hB2 gi578) (by omega) (fun j_ h_ => ⟨by rw [hfσ576 162 j_ (by omega), eσ565, dk_up_n (show ¬ (162 = 169 ∧ j_ = i) by omega), eσ560, dk_up_n (show ¬ (162 = 163 ∧ j_ = i) by omega), eσ519, dk_up_n (show ¬ (162 = 162 ∧ j_ = i) by omega), hfσ511 162 j_ (by omega), hfσ502 162 j_ (by omega), hfσ492 162 j_ (by omega)], by rw [hfσ576 163 j_ (by omega), eσ565, dk_up_n (show ¬ (163 = 169 ∧ j_ = i) by omega), eσ560, dk_up_n (show ¬ (163 = 163 ∧ j_ = i) by omega), eσ519, dk_up_n (show ¬ (163 = 162 ∧ j_ = i) by omega), hfσ511 163 j_ (by omega), hfσ502 163 j_ (by omega), hfσ492 163 j_ (by omega)], by rw [hfσ576 169 j_ (by omega), eσ565, dk_up_n (show ¬ (169 = 169 ∧ j_ = i) by omega), eσ560, dk_up_n (show ¬ (169 = 163 ∧ j_ = i) by omega), eσ519, dk_up_n (show ¬ (169 = 162 ∧ j_ = i) by omega), hfσ511 169 j_ (by omega), hfσ502 169 j_ (by omega), hfσ492 169 j_ (by omega)]⟩) (fun _ => ⟨by rw [← hi, hfσ576 162 i (by omega), eσ565, dk_up_n (show ¬ (162 = 169 ∧ i = i) by omega), eσ560, dk_up_n (show ¬ (162 = 163 ∧ i = i) by omega), eσ519, dk_up_s], by rw [← hi, hfσ576 163 i (by omega), eσ565, dk_up_n (show ¬ (163 = 169 ∧ i = i) by omega), eσ560, dk_up_s]; omega⟩), fun a_ q_ => Or.inr (by have x_ := (gi578).1.2.2.1; have t_ := hT.2.2 q_; have y_ := H85.2.2.1; omega)⟩⟩
          · skip
            have hz580 : σ502 141 3 = σ 141 3 := by rw [hfσ502 141 3 (by omega), hfσ492 141 3 (by omega)]
            refine dk_cV (pc' := 104) (as := [(0, 0)]) hE lk_X11_301 (ct_X11_must l G hGd 0) dX11_readRule_101 rfl is_141 rfl (by decide) (Nat.le_of_ble_eq_true rfl) ⟨rfl, (NX_tk (gi505).1), (by omega)⟩ rfl (fun r582 σ581 hr582 hor582 => ?_)
            obtain ⟨rfl, hfσ581, hpr582⟩ := hr582
            have gi583 : QX c r σ502 σ581 := QX_tr gi505 hpr582 (fun k_ j_ h_ => hfσ581 k_ j_ (by omega))
            obtain ⟨i, hi⟩ : ∃ i : Int, i = 3 * r + 1 := ⟨_, rfl⟩
            have gi584 : QX c r σ502 σ581 := gi583
            refine dk_aload_n (pc' := 105) hE dX11_readRule_104 rfl rfl rfl ?_
            refine gf_11_33 (pc' := 108) (w := 162) hE fl_X11_77 dX11_readRule_105 is_141 rfl rfl ?_
            refine dk_iconst (pc' := 109) hE dX11_readRule_108 (by decide) rfl ?_
            refine dk_aload_n (pc' := 110) hE dX11_readRule_109 rfl rfl rfl ?_
            refine gf_11_41 (pc' := 113) hE fl_X11_374 dX11_readRule_110 is_141 rfl (fun v585 hv585 htv585 hbv585 => ?_)
            have hq585 : v332 = v585 := (show v585 = v332 by rw [hv585, hfσ581 141 41 (by omega), hfσ502 141 41 (by omega), hfσ492 141 41 (by omega), hv332]).symm
            subst hq585
            clear htv585 hbv585
            obtain ⟨v586, hv586⟩ : ∃ z : Int, z = 3 * v332 := ⟨_, rfl⟩
            refine dk_imul (pc' := 114) hE dX11_readRule_113 hv586.symm (by omega) rfl ?_
            refine dk_iload_n (pc' := 115) hE dX11_readRule_114 rfl rfl rfl ?_
            obtain ⟨v587, hv587⟩ : ∃ z : Int, z = v586 + 1 := ⟨_, rfl⟩
            refine dk_iadd (pc' := 116) hE dX11_readRule_115 hv587.symm (by omega) rfl ?_
            have hrnv587 : i = v587 := by omega
            subst hrnv587
            refine dk_aload_n (pc' := 117) hE dX11_readRule_116 rfl rfl rfl ?_
            refine gf_11_42 (pc' := 120) hE fl_X11_377 dX11_readRule_117 is_141 rfl (fun v588 hv588 htv588 hbv588 => ?_)
            have hq588 : c = v588 := (show v588 = c by rw [hv588, hfσ581 141 42 (by omega), hfσ502 141 42 (by omega), hfσ492 141 42 (by omega), hc]).symm
            subst hq588
            clear htv588 hbv588
            refine pa_90 (pc' := 121) hE dX11_readRule_120 is_162 (by omega) trivial rfl (fun σ589 eσ589 => ?_)
            have gi590 : QX c r σ502 σ589 := QX_u gi584 (by omega) (by omega) eσ589
            refine dk_aload_n (pc' := 122) hE dX11_readRule_121 rfl rfl rfl ?_
            refine dk_cV (pc' := 125) (as := []) hE lk_X11_250 (ct_X11_isGood l G hGd) dX11_readRule_122 rfl is_141 rfl (by decide) (Nat.le_of_ble_eq_true rfl) rfl rfl (fun r592 σ591 hr592 hor592 => ?_)
            obtain ⟨v593, rfl, hfσ591, hpr592⟩ := hr592
            have hsσ591 : σ589 = σ591 := (funext (fun k => funext (fun j => hfσ591 k j not_false))).symm
            subst hsσ591
            rcases hpr592 with ⟨rfl, hpr592⟩ | ⟨rfl, hpr592⟩
            · skip
              refine dk_if_eq (tgt := 132) (pc' := 128) hE dX11_readRule_125 (by decide) rfl (fun hc594 => absurd hc594 (by decide)) (fun hc594 => ?_)
              refine dk_aload_n (pc' := 129) hE dX11_readRule_128 rfl rfl rfl ?_
              have hz595 : σ589 141 3 = σ 141 3 := by rw [eσ589, dk_up_n (show ¬ (141 = 162 ∧ 3 = i) by omega), hfσ581 141 3 (by omega), hfσ502 141 3 (by omega), hfσ492 141 3 (by omega)]
              have hz596 : σ589 141 42 = c := by rw [eσ589, dk_up_n (show ¬ (141 = 162 ∧ 42 = i) by omega), hv588]
              refine dk_cV (pc' := 132) (as := []) hE lk_X11_386 (ct_X11_e l G hGd c r) dX11_readRule_129 rfl is_141 rfl (by decide) (Nat.le_of_ble_eq_true rfl) ⟨rfl, (NX_tk (gi590).1), (by omega), ((gi590).2.1), (by omega), (by omega)⟩ rfl (fun r598 σ597 hr598 hor598 => ?_)
              obtain ⟨rfl, hfσ597, hpr598⟩ := hr598
              have hz599 : σ589 141 42 = c := by rw [eσ589, dk_up_n (show ¬ (141 = 162 ∧ 42 = i) by omega), hv588]
              have gi600 : QX c r σ502 σ597 := QX_qx gi590 (by omega) hpr598
              refine dk_aload_n (pc' := 133) hE dX11_readRule_132 rfl rfl rfl ?_
              refine gf_11_34 (pc' := 136) (w := 163) hE fl_X11_80 dX11_readRule_133 is_141 rfl rfl ?_
              refine dk_iconst (pc' := 137) hE dX11_readRule_136 (by decide) rfl ?_
              refine dk_aload_n (pc' := 138) hE dX11_readRule_137 rfl rfl rfl ?_
              refine gf_11_41 (pc' := 141) hE fl_X11_374 dX11_readRule_138 is_141 rfl (fun v601 hv601 htv601 hbv601 => ?_)
              have hq601 : v332 = v601 := (show v601 = v332 by rw [hv601, hfσ597 141 41 (by omega), eσ589, dk_up_n (show ¬ (141 = 162 ∧ 41 = i) by omega), hv585]).symm
              subst hq601
              clear htv601 hbv601
              obtain ⟨v602, hv602⟩ : ∃ z : Int, z = 3 * v332 := ⟨_, rfl⟩
              refine dk_imul (pc' := 142) hE dX11_readRule_141 hv602.symm (by omega) rfl ?_
              refine dk_iload_n (pc' := 143) hE dX11_readRule_142 rfl rfl rfl ?_
              obtain ⟨v603, hv603⟩ : ∃ z : Int, z = v602 + 1 := ⟨_, rfl⟩
              refine dk_iadd (pc' := 144) hE dX11_readRule_143 hv603.symm (by omega) rfl ?_
              have hrnv603 : i = v603 := by omega
              subst hrnv603
              refine dk_aload_n (pc' := 145) hE dX11_readRule_144 rfl rfl rfl ?_
              refine gf_11_42 (pc' := 148) hE fl_X11_377 dX11_readRule_145 is_141 rfl (fun v604 hv604 htv604 hbv604 => ?_)
              refine pa_91 (pc' := 149) hE dX11_readRule_148 is_163 (by omega) trivial rfl (fun σ605 eσ605 => ?_)
              have gi606 : QX c r σ502 σ605 := QX_u gi600 (by omega) (by omega) eσ605
              refine dk_aload_n (pc' := 150) hE dX11_readRule_149 rfl rfl rfl ?_
              refine gf_11_40 (pc' := 153) (w := 169) hE fl_X11_98 dX11_readRule_150 is_141 rfl rfl ?_
              refine dk_iconst (pc' := 154) hE dX11_readRule_153 (by decide) rfl ?_
              refine dk_aload_n (pc' := 155) hE dX11_readRule_154 rfl rfl rfl ?_
              refine gf_11_41 (pc' := 158) hE fl_X11_374 dX11_readRule_155 is_141 rfl (fun v607 hv607 htv607 hbv607 => ?_)
              have hq607 : v332 = v607 := (show v607 = v332 by rw [hv607, eσ605, dk_up_n (show ¬ (141 = 163 ∧ 41 = i) by omega), hv601]).symm
              subst hq607
              clear htv607 hbv607
              obtain ⟨v608, hv608⟩ : ∃ z : Int, z = 3 * v332 := ⟨_, rfl⟩
              refine dk_imul (pc' := 159) hE dX11_readRule_158 hv608.symm (by omega) rfl ?_
              refine dk_iload_n (pc' := 160) hE dX11_readRule_159 rfl rfl rfl ?_
              obtain ⟨v609, hv609⟩ : ∃ z : Int, z = v608 + 1 := ⟨_, rfl⟩
              refine dk_iadd (pc' := 161) hE dX11_readRule_160 hv609.symm (by omega) rfl ?_
              have hrnv609 : i = v609 := by omega
              subst hrnv609
              refine dk_iconst (pc' := 162) hE dX11_readRule_161 (by decide) rfl ?_
              refine pa_97 (pc' := 163) hE dX11_readRule_162 is_169 (by omega) (by omega) trivial rfl (fun σ610 eσ610 => ?_)
              have gi611 : QX c r σ502 σ610 := QX_u gi606 (by omega) (by omega) eσ610
              refine dk_aload_n (pc' := 164) hE dX11_readRule_163 rfl rfl rfl ?_
              refine dk_aload_n (pc' := 165) hE dX11_readRule_164 rfl rfl rfl ?_
              refine dk_bipush (pc' := 167) hE dX11_readRule_165 (by decide) rfl ?_
              refine dk_cV (pc' := 170) (as := [(0, 59)]) hE lk_X11_298 (ct_X11_is l G hGd 59) dX11_readRule_167 rfl is_141 rfl (by decide) (Nat.le_of_ble_eq_true rfl) rfl rfl (fun r613 σ612 hr613 hor613 => ?_)
              obtain ⟨v614, rfl, hfσ612, hpr613⟩ := hr613
              have hsσ612 : σ610 = σ612 := (funext (fun k => funext (fun j => hfσ612 k j not_false))).symm
              subst hsσ612
              rcases hpr613 with ⟨rfl, hpr613⟩ | rfl
              · skip
                have hz615 : σ610 141 3 = σ 141 3 := by rw [eσ610, dk_up_n (show ¬ (141 = 169 ∧ 3 = i) by omega), eσ605, dk_up_n (show ¬ (141 = 163 ∧ 3 = i) by omega), hfσ597 141 3 (by omega), eσ589, dk_up_n (show ¬ (141 = 162 ∧ 3 = i) by omega), hfσ581 141 3 (by omega), hfσ502 141 3 (by omega), hfσ492 141 3 (by omega)]
                refine dk_cV (pc' := 173) (as := [(0, 1)]) hE lk_X11_301 (ct_X11_must l G hGd 1) dX11_readRule_170 rfl is_141 rfl (by decide) (Nat.le_of_ble_eq_true rfl) ⟨rfl, (NX_tk (gi611).1), (by omega)⟩ rfl (fun r617 σ616 hr617 hor617 => ?_)
                obtain ⟨rfl, hfσ616, hpr617⟩ := hr617
                have gi618 : QX c r σ502 σ616 := QX_tr gi611 hpr617 (fun k_ j_ h_ => hfσ616 k_ j_ (by omega))
                have hz619 : σ616 141 42 = v604 := by rw [hfσ616 141 42 (by omega), eσ610, dk_up_n (show ¬ (141 = 169 ∧ 42 = i) by omega), eσ605, dk_up_n (show ¬ (141 = 163 ∧ 42 = i) by omega), hv604]
                exact dk_vret (st := []) hE hR dX11_readRule_173 ⟨rfl, (fun k_ j_ h_ => by rw [hfσ616 k_ j_ (fun w_ => h_ (w_.elim (fun x0_ => Or.inl (x0_)) (fun y0_ => y0_.elim (fun x1_ => Or.inr (Or.inl (x1_))) (fun y1_ => y1_.elim (fun x2_ => Or.inr (Or.inr (Or.inl (x2_)))) (fun y2_ => y2_.elim (fun x3_ => Or.inr (Or.inr (Or.inr (Or.inl (x3_))))) (fun y3_ => y3_.elim (fun x4_ => Or.inr (Or.inr (Or.inr (Or.inr (Or.inl (x4_)))))) (fun y4_ => y4_.elim (fun x5_ => Or.inr (Or.inr (Or.inr (Or.inr (Or.inr (Or.inl (x5_))))))) (fun y5_ => Or.inr (Or.inr (Or.inr (Or.inr (Or.inr (Or.inr (Or.inl (y5_))))))))))))))), eσ610, dk_up_n (show ¬ (k_ = 169 ∧ j_ = i) from fun q_ => h_ (Or.inr (Or.inr (Or.inr (Or.inr (Or.inr (Or.inr (Or.inr (Or.inr (Or.inr (Or.inr (Or.inr (Or.inr (Or.inr (q_.1))))))))))))))), eσ605, dk_up_n (show ¬ (k_ = 163 ∧ j_ = i) from fun q_ => h_ (Or.inr (Or.inr (Or.inr (Or.inr (Or.inr (Or.inr (Or.inr (Or.inr (Or.inr (Or.inr (Or.inr (Or.inr (Or.inl (dk_wr (lo := 162) (hi := 163) q_.1 (by decide)))))))))))))))), hfσ597 k_ j_ (fun w_ => h_ (w_.elim (fun x0_ => Or.inl (x0_)) (fun y0_ => y0_.elim (fun x1_ => Or.inr (Or.inl (x1_))) (fun y1_ => y1_.elim (fun x2_ => Or.inr (Or.inr (Or.inl (x2_)))) (fun y2_ => y2_.elim (fun x3_ => Or.inr (Or.inr (Or.inr (Or.inl (x3_))))) (fun y3_ => y3_.elim (fun x4_ => Or.inr (Or.inr (Or.inr (Or.inr (Or.inl (x4_)))))) (fun y4_ => y4_.elim (fun x5_ => Or.inr (Or.inr (Or.inr (Or.inr (Or.inr (Or.inl (x5_))))))) (fun y5_ => y5_.elim (fun x6_ => Or.inr (Or.inr (Or.inr (Or.inr (Or.inr (Or.inr (Or.inl (x6_)))))))) (fun y6_ => y6_.elim (fun x7_ => Or.inr (Or.inr (Or.inr (Or.inr (Or.inr (Or.inr (Or.inr (Or.inl (x7_))))))))) (fun y7_ => y7_.elim (fun x8_ => Or.inr (Or.inr (Or.inr (Or.inr (Or.inr (Or.inr (Or.inr (Or.inr (Or.inl (x8_)))))))))) (fun y8_ => y8_.elim (fun x9_ => Or.inr (Or.inr (Or.inr (Or.inr (Or.inr (Or.inr (Or.inr (Or.inr (Or.inr (Or.inl (x9_))))))))))) (fun y9_ => y9_.elim (fun x10_ => Or.inr (Or.inr (Or.inr (Or.inr (Or.inr (Or.inr (Or.inr (Or.inr (Or.inr (Or.inr (Or.inl (x10_)))))))))))) (fun y10_ => Or.inr (Or.inr (Or.inr (Or.inr (Or.inr (Or.inr (Or.inr (Or.inr (Or.inr (Or.inr (Or.inr (Or.inl (y10_))))))))))))))))))))))))), eσ589, dk_up_n (show ¬ (k_ = 162 ∧ j_ = i) from fun q_ => h_ (Or.inr (Or.inr (Or.inr (Or.inr (Or.inr (Or.inr (Or.inr (Or.inr (Or.inr (Or.inr (Or.inr (Or.inr (Or.inl (dk_wr (lo := 162) (hi := 163) q_.1 (by decide)))))))))))))))), hfσ581 k_ j_ (fun w_ => h_ (w_.elim (fun x0_ => Or.inl (x0_)) (fun y0_ => y0_.elim (fun x1_ => Or.inr (Or.inl (x1_))) (fun y1_ => y1_.elim (fun x2_ => Or.inr (Or.inr (Or.inl (x2_)))) (fun y2_ => y2_.elim (fun x3_ => Or.inr (Or.inr (Or.inr (Or.inl (x3_))))) (fun y3_ => y3_.elim (fun x4_ => Or.inr (Or.inr (Or.inr (Or.inr (Or.inl (x4_)))))) (fun y4_ => y4_.elim (fun x5_ => Or.inr (Or.inr (Or.inr (Or.inr (Or.inr (Or.inl (x5_))))))) (fun y5_ => Or.inr (Or.inr (Or.inr (Or.inr (Or.inr (Or.inr (Or.inl (y5_))))))))))))))), hfσ502 k_ j_ (fun w_ => h_ (w_.elim (fun x0_ => Or.inr (Or.inr (Or.inl (x0_)))) (fun y0_ => y0_.elim (fun x1_ => Or.inr (Or.inr (Or.inr (Or.inl (x1_))))) (fun y1_ => y1_.elim (fun x2_ => Or.inr (Or.inr (Or.inr (Or.inr (Or.inl (x2_)))))) (fun y2_ => y2_.elim (fun x3_ => Or.inr (Or.inr (Or.inr (Or.inr (Or.inr (Or.inl (x3_))))))) (fun y3_ => Or.inr (Or.inr (Or.inr (Or.inr (Or.inr (Or.inr (Or.inl (y3_))))))))))))), hfσ492 k_ j_ (fun w_ => h_ (w_.elim (fun x0_ => Or.inl (x0_)) (fun y0_ => Or.inr (Or.inl (y0_)))))]), ⟨NX_tr hB.1 (gi618).1, RS_line (n := 1) hRS hc.symm (QX_qx hB hB2 gi618) (by omega) (fun j_ h_ => ⟨by rw [hfσ616 162 j_ (by omega), eσ610, dk_up_n (show ¬ (162 = 169 ∧ j_ = i) by omega), eσ605, dk_up_n (show ¬ (162 = 163 ∧ j_ = i) by omega), hfσ597 162 j_ (by omega), eσ589, dk_up_n (show ¬ (162 = 162 ∧ j_ = i) by omega), hfσ581 162 j_ (by omega), hfσ502 162 j_ (by omega), hfσ492 162 j_ (by omega)], by rw [hfσ616 163 j_ (by omega), eσ610, dk_up_n (show ¬ (163 = 169 ∧ j_ = i) by omega), eσ605, dk_up_n (show ¬ (163 = 163 ∧ j_ = i) by omega), hfσ597 163 j_ (by omega), eσ589, dk_up_n (show ¬ (163 = 162 ∧ j_ = i) by omega), hfσ581 163 j_ (by omega), hfσ502 163 j_ (by omega), hfσ492 163 j_ (by omega)], by rw [hfσ616 169 j_ (by omega), eσ610, dk_up_n (show ¬ (169 = 169 ∧ j_ = i) by omega), eσ605, dk_up_n (show ¬ (169 = 163 ∧ j_ = i) by omega), hfσ597 169 j_ (by omega), eσ589, dk_up_n (show ¬ (169 = 162 ∧ j_ = i) by omega), hfσ581 169 j_ (by omega), hfσ502 169 j_ (by omega), hfσ492 169 j_ (by omega)]⟩) (fun _ => ⟨by rw [← hi, hfσ616 162 i (by omega), eσ610, dk_up_n (show ¬ (162 = 169 ∧ i = i) by omega), eσ605, dk_up_n (show ¬ (162 = 163 ∧ i = i) by omega), hfσ597 162 i (by omega), eσ589, dk_up_s], by rw [← hi, hfσ616 163 i (by omega), eσ610, dk_up_n (show ¬ (163 = 169 ∧ i = i) by omega), eσ605, dk_up_s]; omega⟩), fun a_ q_ => Or.inr (by have x_ := (gi618).1.2.2.1; have t_ := hT.2.2 q_; have y_ := H85.2.2.1; omega)⟩⟩
              · skip
                have hz620 : σ610 141 3 = σ 141 3 := by rw [eσ610, dk_up_n (show ¬ (141 = 169 ∧ 3 = i) by omega), eσ605, dk_up_n (show ¬ (141 = 163 ∧ 3 = i) by omega), hfσ597 141 3 (by omega), eσ589, dk_up_n (show ¬ (141 = 162 ∧ 3 = i) by omega), hfσ581 141 3 (by omega), hfσ502 141 3 (by omega), hfσ492 141 3 (by omega)]
                refine dk_cV (pc' := 173) (as := [(0, 0)]) hE lk_X11_301 (ct_X11_must l G hGd 0) dX11_readRule_170 rfl is_141 rfl (by decide) (Nat.le_of_ble_eq_true rfl) ⟨rfl, (NX_tk (gi611).1), (by omega)⟩ rfl (fun r622 σ621 hr622 hor622 => ?_)
                obtain ⟨rfl, hfσ621, hpr622⟩ := hr622
                have gi623 : QX c r σ502 σ621 := QX_tr gi611 hpr622 (fun k_ j_ h_ => hfσ621 k_ j_ (by omega))
                have hz624 : σ621 141 42 = v604 := by rw [hfσ621 141 42 (by omega), eσ610, dk_up_n (show ¬ (141 = 169 ∧ 42 = i) by omega), eσ605, dk_up_n (show ¬ (141 = 163 ∧ 42 = i) by omega), hv604]
                exact dk_vret (st := []) hE hR dX11_readRule_173 ⟨rfl, (fun k_ j_ h_ => by rw [hfσ621 k_ j_ (fun w_ => h_ (w_.elim (fun x0_ => Or.inl (x0_)) (fun y0_ => y0_.elim (fun x1_ => Or.inr (Or.inl (x1_))) (fun y1_ => y1_.elim (fun x2_ => Or.inr (Or.inr (Or.inl (x2_)))) (fun y2_ => y2_.elim (fun x3_ => Or.inr (Or.inr (Or.inr (Or.inl (x3_))))) (fun y3_ => y3_.elim (fun x4_ => Or.inr (Or.inr (Or.inr (Or.inr (Or.inl (x4_)))))) (fun y4_ => y4_.elim (fun x5_ => Or.inr (Or.inr (Or.inr (Or.inr (Or.inr (Or.inl (x5_))))))) (fun y5_ => Or.inr (Or.inr (Or.inr (Or.inr (Or.inr (Or.inr (Or.inl (y5_))))))))))))))), eσ610, dk_up_n (show ¬ (k_ = 169 ∧ j_ = i) from fun q_ => h_ (Or.inr (Or.inr (Or.inr (Or.inr (Or.inr (Or.inr (Or.inr (Or.inr (Or.inr (Or.inr (Or.inr (Or.inr (Or.inr (q_.1))))))))))))))), eσ605, dk_up_n (show ¬ (k_ = 163 ∧ j_ = i) from fun q_ => h_ (Or.inr (Or.inr (Or.inr (Or.inr (Or.inr (Or.inr (Or.inr (Or.inr (Or.inr (Or.inr (Or.inr (Or.inr (Or.inl (dk_wr (lo := 162) (hi := 163) q_.1 (by decide)))))))))))))))), hfσ597 k_ j_ (fun w_ => h_ (w_.elim (fun x0_ => Or.inl (x0_)) (fun y0_ => y0_.elim (fun x1_ => Or.inr (Or.inl (x1_))) (fun y1_ => y1_.elim (fun x2_ => Or.inr (Or.inr (Or.inl (x2_)))) (fun y2_ => y2_.elim (fun x3_ => Or.inr (Or.inr (Or.inr (Or.inl (x3_))))) (fun y3_ => y3_.elim (fun x4_ => Or.inr (Or.inr (Or.inr (Or.inr (Or.inl (x4_)))))) (fun y4_ => y4_.elim (fun x5_ => Or.inr (Or.inr (Or.inr (Or.inr (Or.inr (Or.inl (x5_))))))) (fun y5_ => y5_.elim (fun x6_ => Or.inr (Or.inr (Or.inr (Or.inr (Or.inr (Or.inr (Or.inl (x6_)))))))) (fun y6_ => y6_.elim (fun x7_ => Or.inr (Or.inr (Or.inr (Or.inr (Or.inr (Or.inr (Or.inr (Or.inl (x7_))))))))) (fun y7_ => y7_.elim (fun x8_ => Or.inr (Or.inr (Or.inr (Or.inr (Or.inr (Or.inr (Or.inr (Or.inr (Or.inl (x8_)))))))))) (fun y8_ => y8_.elim (fun x9_ => Or.inr (Or.inr (Or.inr (Or.inr (Or.inr (Or.inr (Or.inr (Or.inr (Or.inr (Or.inl (x9_))))))))))) (fun y9_ => y9_.elim (fun x10_ => Or.inr (Or.inr (Or.inr (Or.inr (Or.inr (Or.inr (Or.inr (Or.inr (Or.inr (Or.inr (Or.inl (x10_)))))))))))) (fun y10_ => Or.inr (Or.inr (Or.inr (Or.inr (Or.inr (Or.inr (Or.inr (Or.inr (Or.inr (Or.inr (Or.inr (Or.inl (y10_))))))))))))))))))))))))), eσ589, dk_up_n (show ¬ (k_ = 162 ∧ j_ = i) from fun q_ => h_ (Or.inr (Or.inr (Or.inr (Or.inr (Or.inr (Or.inr (Or.inr (Or.inr (Or.inr (Or.inr (Or.inr (Or.inr (Or.inl (dk_wr (lo := 162) (hi := 163) q_.1 (by decide)))))))))))))))), hfσ581 k_ j_ (fun w_ => h_ (w_.elim (fun x0_ => Or.inl (x0_)) (fun y0_ => y0_.elim (fun x1_ => Or.inr (Or.inl (x1_))) (fun y1_ => y1_.elim (fun x2_ => Or.inr (Or.inr (Or.inl (x2_)))) (fun y2_ => y2_.elim (fun x3_ => Or.inr (Or.inr (Or.inr (Or.inl (x3_))))) (fun y3_ => y3_.elim (fun x4_ => Or.inr (Or.inr (Or.inr (Or.inr (Or.inl (x4_)))))) (fun y4_ => y4_.elim (fun x5_ => Or.inr (Or.inr (Or.inr (Or.inr (Or.inr (Or.inl (x5_))))))) (fun y5_ => Or.inr (Or.inr (Or.inr (Or.inr (Or.inr (Or.inr (Or.inl (y5_))))))))))))))), hfσ502 k_ j_ (fun w_ => h_ (w_.elim (fun x0_ => Or.inr (Or.inr (Or.inl (x0_)))) (fun y0_ => y0_.elim (fun x1_ => Or.inr (Or.inr (Or.inr (Or.inl (x1_))))) (fun y1_ => y1_.elim (fun x2_ => Or.inr (Or.inr (Or.inr (Or.inr (Or.inl (x2_)))))) (fun y2_ => y2_.elim (fun x3_ => Or.inr (Or.inr (Or.inr (Or.inr (Or.inr (Or.inl (x3_))))))) (fun y3_ => Or.inr (Or.inr (Or.inr (Or.inr (Or.inr (Or.inr (Or.inl (y3_))))))))))))), hfσ492 k_ j_ (fun w_ => h_ (w_.elim (fun x0_ => Or.inl (x0_)) (fun y0_ => Or.inr (Or.inl (y0_)))))]), ⟨NX_tr hB.1 (gi623).1, RS_line (n := 1) hRS hc.symm (QX_qx hB hB2 gi623) (by omega) (fun j_ h_ => ⟨by rw [hfσ621 162 j_ (by omega), eσ610, dk_up_n (show ¬ (162 = 169 ∧ j_ = i) by omega), eσ605, dk_up_n (show ¬ (162 = 163 ∧ j_ = i) by omega), hfσ597 162 j_ (by omega), eσ589, dk_up_n (show ¬ (162 = 162 ∧ j_ = i) by omega), hfσ581 162 j_ (by omega), hfσ502 162 j_ (by omega), hfσ492 162 j_ (by omega)], by rw [hfσ621 163 j_ (by omega), eσ610, dk_up_n (show ¬ (163 = 169 ∧ j_ = i) by omega), eσ605, dk_up_n (show ¬ (163 = 163 ∧ j_ = i) by omega), hfσ597 163 j_ (by omega), eσ589, dk_up_n (show ¬ (163 = 162 ∧ j_ = i) by omega), hfσ581 163 j_ (by omega), hfσ502 163 j_ (by omega), hfσ492 163 j_ (by omega)], by rw [hfσ621 169 j_ (by omega), eσ610, dk_up_n (show ¬ (169 = 169 ∧ j_ = i) by omega), eσ605, dk_up_n (show ¬ (169 = 163 ∧ j_ = i) by omega), hfσ597 169 j_ (by omega), eσ589, dk_up_n (show ¬ (169 = 162 ∧ j_ = i) by omega), hfσ581 169 j_ (by omega), hfσ502 169 j_ (by omega), hfσ492 169 j_ (by omega)]⟩) (fun _ => ⟨by rw [← hi, hfσ621 162 i (by omega), eσ610, dk_up_n (show ¬ (162 = 169 ∧ i = i) by omega), eσ605, dk_up_n (show ¬ (162 = 163 ∧ i = i) by omega), hfσ597 162 i (by omega), eσ589, dk_up_s], by rw [← hi, hfσ621 163 i (by omega), eσ610, dk_up_n (show ¬ (163 = 169 ∧ i = i) by omega), eσ605, dk_up_s]; omega⟩), fun a_ q_ => Or.inr (by have x_ := (gi623).1.2.2.1; have t_ := hT.2.2 q_; have y_ := H85.2.2.1; omega)⟩⟩
            · skip
              refine dk_if_eq (tgt := 132) (pc' := 128) hE dX11_readRule_125 (by decide) rfl (fun hc625 => ?_) (fun hc625 => absurd hc625 (by decide))
              refine dk_aload_n (pc' := 133) hE dX11_readRule_132 rfl rfl rfl ?_
              refine gf_11_34 (pc' := 136) (w := 163) hE fl_X11_80 dX11_readRule_133 is_141 rfl rfl ?_
              refine dk_iconst (pc' := 137) hE dX11_readRule_136 (by decide) rfl ?_
              refine dk_aload_n (pc' := 138) hE dX11_readRule_137 rfl rfl rfl ?_
              refine gf_11_41 (pc' := 141) hE fl_X11_374 dX11_readRule_138 is_141 rfl (fun v626 hv626 htv626 hbv626 => ?_)
              have hq626 : v332 = v626 := (show v626 = v332 by rw [hv626, eσ589, dk_up_n (show ¬ (141 = 162 ∧ 41 = i) by omega), hv585]).symm
              subst hq626
              clear htv626 hbv626
              obtain ⟨v627, hv627⟩ : ∃ z : Int, z = 3 * v332 := ⟨_, rfl⟩
              refine dk_imul (pc' := 142) hE dX11_readRule_141 hv627.symm (by omega) rfl ?_
              refine dk_iload_n (pc' := 143) hE dX11_readRule_142 rfl rfl rfl ?_
              obtain ⟨v628, hv628⟩ : ∃ z : Int, z = v627 + 1 := ⟨_, rfl⟩
              refine dk_iadd (pc' := 144) hE dX11_readRule_143 hv628.symm (by omega) rfl ?_
              have hrnv628 : i = v628 := by omega
              subst hrnv628
              refine dk_aload_n (pc' := 145) hE dX11_readRule_144 rfl rfl rfl ?_
              refine gf_11_42 (pc' := 148) hE fl_X11_377 dX11_readRule_145 is_141 rfl (fun v629 hv629 htv629 hbv629 => ?_)
              have hq629 : c = v629 := (show v629 = c by rw [hv629, eσ589, dk_up_n (show ¬ (141 = 162 ∧ 42 = i) by omega), hv588]).symm
              subst hq629
              clear htv629 hbv629
              refine pa_91 (pc' := 149) hE dX11_readRule_148 is_163 (by omega) trivial rfl (fun σ630 eσ630 => ?_)
              have gi631 : QX c r σ502 σ630 := QX_u gi590 (by omega) (by omega) eσ630
              refine dk_aload_n (pc' := 150) hE dX11_readRule_149 rfl rfl rfl ?_
              refine gf_11_40 (pc' := 153) (w := 169) hE fl_X11_98 dX11_readRule_150 is_141 rfl rfl ?_
              refine dk_iconst (pc' := 154) hE dX11_readRule_153 (by decide) rfl ?_
              refine dk_aload_n (pc' := 155) hE dX11_readRule_154 rfl rfl rfl ?_
              refine gf_11_41 (pc' := 158) hE fl_X11_374 dX11_readRule_155 is_141 rfl (fun v632 hv632 htv632 hbv632 => ?_)
              have hq632 : v332 = v632 := (show v632 = v332 by rw [hv632, eσ630, dk_up_n (show ¬ (141 = 163 ∧ 41 = i) by omega), hv626]).symm
              subst hq632
              clear htv632 hbv632
              obtain ⟨v633, hv633⟩ : ∃ z : Int, z = 3 * v332 := ⟨_, rfl⟩
              refine dk_imul (pc' := 159) hE dX11_readRule_158 hv633.symm (by omega) rfl ?_
              refine dk_iload_n (pc' := 160) hE dX11_readRule_159 rfl rfl rfl ?_
              obtain ⟨v634, hv634⟩ : ∃ z : Int, z = v633 + 1 := ⟨_, rfl⟩
              refine dk_iadd (pc' := 161) hE dX11_readRule_160 hv634.symm (by omega) rfl ?_
              have hrnv634 : i = v634 := by omega
              subst hrnv634
              refine dk_iconst (pc' := 162) hE dX11_readRule_161 (by decide) rfl ?_
              refine pa_97 (pc' := 163) hE dX11_readRule_162 is_169 (by omega) (by omega) trivial rfl (fun σ635 eσ635 => ?_)
              have gi636 : QX c r σ502 σ635 := QX_u gi631 (by omega) (by omega) eσ635
              refine dk_aload_n (pc' := 164) hE dX11_readRule_163 rfl rfl rfl ?_
              refine dk_aload_n (pc' := 165) hE dX11_readRule_164 rfl rfl rfl ?_
              refine dk_bipush (pc' := 167) hE dX11_readRule_165 (by decide) rfl ?_
              refine dk_cV (pc' := 170) (as := [(0, 59)]) hE lk_X11_298 (ct_X11_is l G hGd 59) dX11_readRule_167 rfl is_141 rfl (by decide) (Nat.le_of_ble_eq_true rfl) rfl rfl (fun r638 σ637 hr638 hor638 => ?_)
              obtain ⟨v639, rfl, hfσ637, hpr638⟩ := hr638
              have hsσ637 : σ635 = σ637 := (funext (fun k => funext (fun j => hfσ637 k j not_false))).symm
              subst hsσ637
              rcases hpr638 with ⟨rfl, hpr638⟩ | rfl
              · skip
                have hz640 : σ635 141 3 = σ 141 3 := by rw [eσ635, dk_up_n (show ¬ (141 = 169 ∧ 3 = i) by omega), eσ630, dk_up_n (show ¬ (141 = 163 ∧ 3 = i) by omega), eσ589, dk_up_n (show ¬ (141 = 162 ∧ 3 = i) by omega), hfσ581 141 3 (by omega), hfσ502 141 3 (by omega), hfσ492 141 3 (by omega)]
                refine dk_cV (pc' := 173) (as := [(0, 1)]) hE lk_X11_301 (ct_X11_must l G hGd 1) dX11_readRule_170 rfl is_141 rfl (by decide) (Nat.le_of_ble_eq_true rfl) ⟨rfl, (NX_tk (gi636).1), (by omega)⟩ rfl (fun r642 σ641 hr642 hor642 => ?_)
                obtain ⟨rfl, hfσ641, hpr642⟩ := hr642
                have gi643 : QX c r σ502 σ641 := QX_tr gi636 hpr642 (fun k_ j_ h_ => hfσ641 k_ j_ (by omega))
                have hz644 : σ641 141 42 = c := by rw [hfσ641 141 42 (by omega), eσ635, dk_up_n (show ¬ (141 = 169 ∧ 42 = i) by omega), eσ630, dk_up_n (show ¬ (141 = 163 ∧ 42 = i) by omega), hv629]
                exact dk_vret (st := []) hE hR dX11_readRule_173 ⟨rfl, (fun k_ j_ h_ => by rw [hfσ641 k_ j_ (fun w_ => h_ (w_.elim (fun x0_ => Or.inl (x0_)) (fun y0_ => y0_.elim (fun x1_ => Or.inr (Or.inl (x1_))) (fun y1_ => y1_.elim (fun x2_ => Or.inr (Or.inr (Or.inl (x2_)))) (fun y2_ => y2_.elim (fun x3_ => Or.inr (Or.inr (Or.inr (Or.inl (x3_))))) (fun y3_ => y3_.elim (fun x4_ => Or.inr (Or.inr (Or.inr (Or.inr (Or.inl (x4_)))))) (fun y4_ => y4_.elim (fun x5_ => Or.inr (Or.inr (Or.inr (Or.inr (Or.inr (Or.inl (x5_))))))) (fun y5_ => Or.inr (Or.inr (Or.inr (Or.inr (Or.inr (Or.inr (Or.inl (y5_))))))))))))))), eσ635, dk_up_n (show ¬ (k_ = 169 ∧ j_ = i) from fun q_ => h_ (Or.inr (Or.inr (Or.inr (Or.inr (Or.inr (Or.inr (Or.inr (Or.inr (Or.inr (Or.inr (Or.inr (Or.inr (Or.inr (q_.1))))))))))))))), eσ630, dk_up_n (show ¬ (k_ = 163 ∧ j_ = i) from fun q_ => h_ (Or.inr (Or.inr (Or.inr (Or.inr (Or.inr (Or.inr (Or.inr (Or.inr (Or.inr (Or.inr (Or.inr (Or.inr (Or.inl (dk_wr (lo := 162) (hi := 163) q_.1 (by decide)))))))))))))))), eσ589, dk_up_n (show ¬ (k_ = 162 ∧ j_ = i) from fun q_ => h_ (Or.inr (Or.inr (Or.inr (Or.inr (Or.inr (Or.inr (Or.inr (Or.inr (Or.inr (Or.inr (Or.inr (Or.inr (Or.inl (dk_wr (lo := 162) (hi := 163) q_.1 (by decide)))))))))))))))), hfσ581 k_ j_ (fun w_ => h_ (w_.elim (fun x0_ => Or.inl (x0_)) (fun y0_ => y0_.elim (fun x1_ => Or.inr (Or.inl (x1_))) (fun y1_ => y1_.elim (fun x2_ => Or.inr (Or.inr (Or.inl (x2_)))) (fun y2_ => y2_.elim (fun x3_ => Or.inr (Or.inr (Or.inr (Or.inl (x3_))))) (fun y3_ => y3_.elim (fun x4_ => Or.inr (Or.inr (Or.inr (Or.inr (Or.inl (x4_)))))) (fun y4_ => y4_.elim (fun x5_ => Or.inr (Or.inr (Or.inr (Or.inr (Or.inr (Or.inl (x5_))))))) (fun y5_ => Or.inr (Or.inr (Or.inr (Or.inr (Or.inr (Or.inr (Or.inl (y5_))))))))))))))), hfσ502 k_ j_ (fun w_ => h_ (w_.elim (fun x0_ => Or.inr (Or.inr (Or.inl (x0_)))) (fun y0_ => y0_.elim (fun x1_ => Or.inr (Or.inr (Or.inr (Or.inl (x1_))))) (fun y1_ => y1_.elim (fun x2_ => Or.inr (Or.inr (Or.inr (Or.inr (Or.inl (x2_)))))) (fun y2_ => y2_.elim (fun x3_ => Or.inr (Or.inr (Or.inr (Or.inr (Or.inr (Or.inl (x3_))))))) (fun y3_ => Or.inr (Or.inr (Or.inr (Or.inr (Or.inr (Or.inr (Or.inl (y3_))))))))))))), hfσ492 k_ j_ (fun w_ => h_ (w_.elim (fun x0_ => Or.inl (x0_)) (fun y0_ => Or.inr (Or.inl (y0_)))))]), ⟨NX_tr hB.1 (gi643).1, RS_line (n := 1) hRS hc.symm (QX_qx hB hB2 gi643) (by omega) (fun j_ h_ => ⟨by rw [hfσ641 162 j_ (by omega), eσ635, dk_up_n (show ¬ (162 = 169 ∧ j_ = i) by omega), eσ630, dk_up_n (show ¬ (162 = 163 ∧ j_ = i) by omega), eσ589, dk_up_n (show ¬ (162 = 162 ∧ j_ = i) by omega), hfσ581 162 j_ (by omega), hfσ502 162 j_ (by omega), hfσ492 162 j_ (by omega)], by rw [hfσ641 163 j_ (by omega), eσ635, dk_up_n (show ¬ (163 = 169 ∧ j_ = i) by omega), eσ630, dk_up_n (show ¬ (163 = 163 ∧ j_ = i) by omega), eσ589, dk_up_n (show ¬ (163 = 162 ∧ j_ = i) by omega), hfσ581 163 j_ (by omega), hfσ502 163 j_ (by omega), hfσ492 163 j_ (by omega)], by rw [hfσ641 169 j_ (by omega), eσ635, dk_up_n (show ¬ (169 = 169 ∧ j_ = i) by omega), eσ630, dk_up_n (show ¬ (169 = 163 ∧ j_ = i) by omega), eσ589, dk_up_n (show ¬ (169 = 162 ∧ j_ = i) by omega), hfσ581 169 j_ (by omega), hfσ502 169 j_ (by omega), hfσ492 169 j_ (by omega)]⟩) (fun _ => ⟨by rw [← hi, hfσ641 162 i (by omega), eσ635, dk_up_n (show ¬ (162 = 169 ∧ i = i) by omega), eσ630, dk_up_n (show ¬ (162 = 163 ∧ i = i) by omega), eσ589, dk_up_s], by rw [← hi, hfσ641 163 i (by omega), eσ635, dk_up_n (show ¬ (163 = 169 ∧ i = i) by omega), eσ630, dk_up_s]; omega⟩), fun a_ q_ => Or.inr (by have x_ := (gi643).1.2.2.1; have t_ := hT.2.2 q_; have y_ := H85.2.2.1; omega)⟩⟩
              · skip
                have hz645 : σ635 141 3 = σ 141 3 := by rw [eσ635, dk_up_n (show ¬ (141 = 169 ∧ 3 = i) by omega), eσ630, dk_up_n (show ¬ (141 = 163 ∧ 3 = i) by omega), eσ589, dk_up_n (show ¬ (141 = 162 ∧ 3 = i) by omega), hfσ581 141 3 (by omega), hfσ502 141 3 (by omega), hfσ492 141 3 (by omega)]
                refine dk_cV (pc' := 173) (as := [(0, 0)]) hE lk_X11_301 (ct_X11_must l G hGd 0) dX11_readRule_170 rfl is_141 rfl (by decide) (Nat.le_of_ble_eq_true rfl) ⟨rfl, (NX_tk (gi636).1), (by omega)⟩ rfl (fun r647 σ646 hr647 hor647 => ?_)
                obtain ⟨rfl, hfσ646, hpr647⟩ := hr647
                have gi648 : QX c r σ502 σ646 := QX_tr gi636 hpr647 (fun k_ j_ h_ => hfσ646 k_ j_ (by omega))
                have hz649 : σ646 141 42 = c := by rw [hfσ646 141 42 (by omega), eσ635, dk_up_n (show ¬ (141 = 169 ∧ 42 = i) by omega), eσ630, dk_up_n (show ¬ (141 = 163 ∧ 42 = i) by omega), hv629]
                exact dk_vret (st := []) hE hR dX11_readRule_173 ⟨rfl, (fun k_ j_ h_ => by rw [hfσ646 k_ j_ (fun w_ => h_ (w_.elim (fun x0_ => Or.inl (x0_)) (fun y0_ => y0_.elim (fun x1_ => Or.inr (Or.inl (x1_))) (fun y1_ => y1_.elim (fun x2_ => Or.inr (Or.inr (Or.inl (x2_)))) (fun y2_ => y2_.elim (fun x3_ => Or.inr (Or.inr (Or.inr (Or.inl (x3_))))) (fun y3_ => y3_.elim (fun x4_ => Or.inr (Or.inr (Or.inr (Or.inr (Or.inl (x4_)))))) (fun y4_ => y4_.elim (fun x5_ => Or.inr (Or.inr (Or.inr (Or.inr (Or.inr (Or.inl (x5_))))))) (fun y5_ => Or.inr (Or.inr (Or.inr (Or.inr (Or.inr (Or.inr (Or.inl (y5_))))))))))))))), eσ635, dk_up_n (show ¬ (k_ = 169 ∧ j_ = i) from fun q_ => h_ (Or.inr (Or.inr (Or.inr (Or.inr (Or.inr (Or.inr (Or.inr (Or.inr (Or.inr (Or.inr (Or.inr (Or.inr (Or.inr (q_.1))))))))))))))), eσ630, dk_up_n (show ¬ (k_ = 163 ∧ j_ = i) from fun q_ => h_ (Or.inr (Or.inr (Or.inr (Or.inr (Or.inr (Or.inr (Or.inr (Or.inr (Or.inr (Or.inr (Or.inr (Or.inr (Or.inl (dk_wr (lo := 162) (hi := 163) q_.1 (by decide)))))))))))))))), eσ589, dk_up_n (show ¬ (k_ = 162 ∧ j_ = i) from fun q_ => h_ (Or.inr (Or.inr (Or.inr (Or.inr (Or.inr (Or.inr (Or.inr (Or.inr (Or.inr (Or.inr (Or.inr (Or.inr (Or.inl (dk_wr (lo := 162) (hi := 163) q_.1 (by decide)))))))))))))))), hfσ581 k_ j_ (fun w_ => h_ (w_.elim (fun x0_ => Or.inl (x0_)) (fun y0_ => y0_.elim (fun x1_ => Or.inr (Or.inl (x1_))) (fun y1_ => y1_.elim (fun x2_ => Or.inr (Or.inr (Or.inl (x2_)))) (fun y2_ => y2_.elim (fun x3_ => Or.inr (Or.inr (Or.inr (Or.inl (x3_))))) (fun y3_ => y3_.elim (fun x4_ => Or.inr (Or.inr (Or.inr (Or.inr (Or.inl (x4_)))))) (fun y4_ => y4_.elim (fun x5_ => Or.inr (Or.inr (Or.inr (Or.inr (Or.inr (Or.inl (x5_))))))) (fun y5_ => Or.inr (Or.inr (Or.inr (Or.inr (Or.inr (Or.inr (Or.inl (y5_))))))))))))))), hfσ502 k_ j_ (fun w_ => h_ (w_.elim (fun x0_ => Or.inr (Or.inr (Or.inl (x0_)))) (fun y0_ => y0_.elim (fun x1_ => Or.inr (Or.inr (Or.inr (Or.inl (x1_))))) (fun y1_ => y1_.elim (fun x2_ => Or.inr (Or.inr (Or.inr (Or.inr (Or.inl (x2_)))))) (fun y2_ => y2_.elim (fun x3_ => Or.inr (Or.inr (Or.inr (Or.inr (Or.inr (Or.inl (x3_))))))) (fun y3_ => Or.inr (Or.inr (Or.inr (Or.inr (Or.inr (Or.inr (Or.inl (y3_))))))))))))), hfσ492 k_ j_ (fun w_ => h_ (w_.elim (fun x0_ => Or.inl (x0_)) (fun y0_ => Or.inr (Or.inl (y0_)))))]), ⟨NX_tr hB.1 (gi648).1, RS_line (n := 1) hRS hc.symm (QX_qx hB hB2 gi648) (by omega) (fun j_ h_ => ⟨by rw [hfσ646 162 j_ (by omega), eσ635, dk_up_n (show ¬ (162 = 169 ∧ j_ = i) by omega), eσ630, dk_up_n (show ¬ (162 = 163 ∧ j_ = i) by omega), eσ589, dk_up_n (show ¬ (162 = 162 ∧ j_ = i) by omega), hfσ581 162 j_ (by omega), hfσ502 162 j_ (by omega), hfσ492 162 j_ (by omega)], by rw [hfσ646 163 j_ (by omega), eσ635, dk_up_n (show ¬ (163 = 169 ∧ j_ = i) by omega), eσ630, dk_up_n (show ¬ (163 = 163 ∧ j_ = i) by omega), eσ589, dk_up_n (show ¬ (163 = 162 ∧ j_ = i) by omega), hfσ581 163 j_ (by omega), hfσ502 163 j_ (by omega), hfσ492 163 j_ (by omega)], by rw [hfσ646 169 j_ (by omega), eσ635, dk_up_n (show ¬ (169 = 169 ∧ j_ = i) by omega), eσ630, dk_up_n (show ¬ (169 = 163 ∧ j_ = i) by omega), eσ589, dk_up_n (show ¬ (169 = 162 ∧ j_ = i) by omega), hfσ581 169 j_ (by omega), hfσ502 169 j_ (by omega), hfσ492 169 j_ (by omega)]⟩) (fun _ => ⟨by rw [← hi, hfσ646 162 i (by omega), eσ635, dk_up_n (show ¬ (162 = 169 ∧ i = i) by omega), eσ630, dk_up_n (show ¬ (162 = 163 ∧ i = i) by omega), eσ589, dk_up_s], by rw [← hi, hfσ646 163 i (by omega), eσ635, dk_up_n (show ¬ (163 = 169 ∧ i = i) by omega), eσ630, dk_up_s]; omega⟩), fun a_ q_ => Or.inr (by have x_ := (gi648).1.2.2.1; have t_ := hT.2.2 q_; have y_ := H85.2.2.1; omega)⟩⟩
        · skip
          refine dk_if_ne (tgt := 84) (pc' := 83) hE dX11_readRule_80 (by decide) rfl (fun hc650 => absurd hc650 (by decide)) (fun hc650 => ?_)
          have hz651 : σ492 141 42 = c := by rw [hfσ492 141 42 (by omega), hc]
          exact dk_vret (st := []) hE hR dX11_readRule_83 ⟨rfl, (fun k_ j_ h_ => by rw [hfσ492 k_ j_ (fun w_ => h_ (w_.elim (fun x0_ => Or.inl (x0_)) (fun y0_ => Or.inr (Or.inl (y0_)))))]), ⟨(gi494).1, RS_fr hRS (gi494).1 (fun k_ j_ h_ => by rw [hfσ492 k_ j_ (by omega)]), fun a_ q_ => Or.inl (by omega)⟩⟩
    · skip
      refine dk_if_eq (tgt := 28) (pc' := 24) hE dX11_readRule_21 (by decide) rfl (fun hc652 => ?_) (fun hc652 => absurd hc652 (by decide))
      refine dk_aload_n (pc' := 29) hE dX11_readRule_28 rfl rfl rfl ?_
      refine dk_ldc2 (pc' := 32) hE dX11_readRule_29 cs_X11_184 (by decide) rfl ?_
      refine dk_cV (pc' := 35) (as := [(3, 1668248436)]) hE lk_X11_281 (ct_X11_isWord l G hGd 1668248436) dX11_readRule_32 rfl is_141 rfl (by decide) (Nat.le_of_ble_eq_true rfl) rfl rfl (fun r654 σ653 hr654 hor654 => ?_)
      obtain ⟨v655, rfl, hfσ653, hpr654⟩ := hr654
      have hsσ653 : σ = σ653 := (funext (fun k => funext (fun j => hfσ653 k j not_false))).symm
      subst hsσ653
      rcases hpr654 with ⟨rfl, hpr654⟩ | rfl
      · skip
        refine dk_if_eq (tgt := 42) (pc' := 38) hE dX11_readRule_35 (by decide) rfl (fun hc656 => absurd hc656 (by decide)) (fun hc656 => ?_)
        refine dk_iconst (pc' := 39) hE dX11_readRule_38 (by decide) rfl ?_
        refine dk_goto (tgt := 43) hE dX11_readRule_39 (by decide) ?_
        refine dk_istore_n (pc' := 44) (ls' := [(4, 141), (0, 2)]) hE dX11_readRule_43 rfl rfl (by decide) rfl ?_
        refine dk_iload_n (pc' := 45) hE dX11_readRule_44 rfl rfl rfl ?_
        refine dk_if_lt (tgt := 72) (pc' := 48) hE dX11_readRule_45 (by decide) rfl (fun hc657 => absurd hc657 (by decide)) (fun hc657 => ?_)
        refine dk_aload_n (pc' := 49) hE dX11_readRule_48 rfl rfl rfl ?_
        refine gf_11_40 (pc' := 52) (w := 169) hE fl_X11_98 dX11_readRule_49 is_141 rfl rfl ?_
        refine dk_iconst (pc' := 53) hE dX11_readRule_52 (by decide) rfl ?_
        refine dk_aload_n (pc' := 54) hE dX11_readRule_53 rfl rfl rfl ?_
        refine gf_11_41 (pc' := 57) hE fl_X11_374 dX11_readRule_54 is_141 rfl (fun v658 hv658 htv658 hbv658 => ?_)
        obtain ⟨v659, hv659⟩ : ∃ z : Int, z = 3 * v658 := ⟨_, rfl⟩
        refine dk_imul (pc' := 58) hE dX11_readRule_57 hv659.symm (by omega) rfl ?_
        refine dk_iload_n (pc' := 59) hE dX11_readRule_58 rfl rfl rfl ?_
        refine dk_if_ge (tgt := 66) (pc' := 62) hE dX11_readRule_59 (by decide) rfl (fun hc660 => ?_) (fun hc660 => absurd hc660 (by decide))
        refine dk_iload_n (pc' := 67) hE dX11_readRule_66 rfl rfl rfl ?_
        obtain ⟨v661, hv661⟩ : ∃ z : Int, z = v659 + 2 := ⟨_, rfl⟩
        refine dk_iadd (pc' := 68) hE dX11_readRule_67 hv661.symm (by omega) rfl ?_
        refine ga_97 (pc' := 69) hE dX11_readRule_68 is_169 (by omega) rfl (fun v662 hv662 htv662 hbv662 => ?_)
        refine dk_if_eq (tgt := 76) (pc' := 72) hE dX11_readRule_69 (by decide) rfl (fun hc663 => ?_) (fun hc663 => ?_)
        · skip
          refine dk_aload_n (pc' := 77) hE dX11_readRule_76 rfl rfl rfl ?_
          refine dk_cV (pc' := 80) (as := []) hE lk_X11_250 (ct_X11_isGood l G hGd) dX11_readRule_77 rfl is_141 rfl (by decide) (Nat.le_of_ble_eq_true rfl) rfl rfl (fun r665 σ664 hr665 hor665 => ?_)
          obtain ⟨v666, rfl, hfσ664, hpr665⟩ := hr665
          have hsσ664 : σ = σ664 := (funext (fun k => funext (fun j => hfσ664 k j not_false))).symm
          subst hsσ664
          rcases hpr665 with ⟨rfl, hpr665⟩ | ⟨rfl, hpr665⟩
          · skip
            refine dk_if_ne (tgt := 84) (pc' := 83) hE dX11_readRule_80 (by decide) rfl (fun hc667 => ?_) (fun hc667 => absurd hc667 (by decide))
            refine dk_aload_n (pc' := 85) hE dX11_readRule_84 rfl rfl rfl ?_
            refine dk_cV (pc' := 88) (as := []) hE lk_X11_254 (ct_X11_next l G hGd) dX11_readRule_85 rfl is_141 rfl (by decide) (Nat.le_of_ble_eq_true rfl) ⟨rfl, ((NX_tk ((QX_of hT hRS.1 hc)).1).2.1), (by omega)⟩ rfl (fun r669 σ668 hr669 hor669 => ?_)
            obtain ⟨rfl, hfσ668, hpr669⟩ := hr669
            have H85 := hpr669
            have gi670 : QX c r σ σ668 := QX_y (QX_of hT hRS.1 hc) hpr669 (fun k_ j_ h_ => hfσ668 k_ j_ (by omega))
            have hB : QX c r σ σ668 := gi670
            have hB2 : σ668 141 42 = c := by rw [hfσ668 141 42 (by omega)]; exact hc.symm
            have gi671 : QX c r σ668 σ668 := QX_of (NX_tk hB.1) hB.2.1 hB2.symm
            refine dk_iload_n (pc' := 89) hE dX11_readRule_88 rfl rfl rfl ?_
            refine dk_iconst (pc' := 90) hE dX11_readRule_89 (by decide) rfl ?_
            refine dk_icmp_eq (tgt := 104) (pc' := 93) hE dX11_readRule_90 (by decide) rfl (fun hc672 => ?_) (fun hc672 => absurd hc672 (by decide))
            obtain ⟨i, hi⟩ : ∃ i : Int, i = 3 * r + 2 := ⟨_, rfl⟩
            have gi673 : QX c r σ668 σ668 := gi671
            refine dk_aload_n (pc' := 105) hE dX11_readRule_104 rfl rfl rfl ?_
            refine gf_11_33 (pc' := 108) (w := 162) hE fl_X11_77 dX11_readRule_105 is_141 rfl rfl ?_
            refine dk_iconst (pc' := 109) hE dX11_readRule_108 (by decide) rfl ?_
            refine dk_aload_n (pc' := 110) hE dX11_readRule_109 rfl rfl rfl ?_
            refine gf_11_41 (pc' := 113) hE fl_X11_374 dX11_readRule_110 is_141 rfl (fun v674 hv674 htv674 hbv674 => ?_)
            have hq674 : v658 = v674 := (show v674 = v658 by rw [hv674, hfσ668 141 41 (by omega), hv658]).symm
            subst hq674
            clear htv674 hbv674
            obtain ⟨v675, hv675⟩ : ∃ z : Int, z = 3 * v658 := ⟨_, rfl⟩
            refine dk_imul (pc' := 114) hE dX11_readRule_113 hv675.symm (by omega) rfl ?_
            refine dk_iload_n (pc' := 115) hE dX11_readRule_114 rfl rfl rfl ?_
            obtain ⟨v676, hv676⟩ : ∃ z : Int, z = v675 + 2 := ⟨_, rfl⟩
            refine dk_iadd (pc' := 116) hE dX11_readRule_115 hv676.symm (by omega) rfl ?_
            have hrnv676 : i = v676 := by omega
            subst hrnv676
            refine dk_aload_n (pc' := 117) hE dX11_readRule_116 rfl rfl rfl ?_
            refine gf_11_42 (pc' := 120) hE fl_X11_377 dX11_readRule_117 is_141 rfl (fun v677 hv677 htv677 hbv677 => ?_)
            have hq677 : c = v677 := (show v677 = c by rw [hv677, hfσ668 141 42 (by omega), hc]).symm
            subst hq677
            clear htv677 hbv677
            refine pa_90 (pc' := 121) hE dX11_readRule_120 is_162 (by omega) trivial rfl (fun σ678 eσ678 => ?_)
            have gi679 : QX c r σ668 σ678 := QX_u gi673 (by omega) (by omega) eσ678
            refine dk_aload_n (pc' := 122) hE dX11_readRule_121 rfl rfl rfl ?_
            refine dk_cV (pc' := 125) (as := []) hE lk_X11_250 (ct_X11_isGood l G hGd) dX11_readRule_122 rfl is_141 rfl (by decide) (Nat.le_of_ble_eq_true rfl) rfl rfl (fun r681 σ680 hr681 hor681 => ?_)
            obtain ⟨v682, rfl, hfσ680, hpr681⟩ := hr681
            have hsσ680 : σ678 = σ680 := (funext (fun k => funext (fun j => hfσ680 k j not_false))).symm
            subst hsσ680
            rcases hpr681 with ⟨rfl, hpr681⟩ | ⟨rfl, hpr681⟩
            · skip
              refine dk_if_eq (tgt := 132) (pc' := 128) hE dX11_readRule_125 (by decide) rfl (fun hc683 => absurd hc683 (by decide)) (fun hc683 => ?_)
              refine dk_aload_n (pc' := 129) hE dX11_readRule_128 rfl rfl rfl ?_
              have hz684 : σ678 141 3 = σ 141 3 := by rw [eσ678, dk_up_n (show ¬ (141 = 162 ∧ 3 = i) by omega), hfσ668 141 3 (by omega)]
              have hz685 : σ678 141 42 = c := by rw [eσ678, dk_up_n (show ¬ (141 = 162 ∧ 42 = i) by omega), hv677]
              have hz686 : σ678 141 4 = σ 141 4 := by rw [eσ678, dk_up_n (show ¬ (141 = 162 ∧ 4 = i) by omega), hfσ668 141 4 (by omega)]
              refine dk_cV (pc' := 132) (as := []) hE lk_X11_386 (ct_X11_e l G hGd c r) dX11_readRule_129 rfl is_141 rfl (by decide) (Nat.le_of_ble_eq_true rfl) ⟨rfl, (NX_tk (gi679).1), (by omega), ((gi679).2.1), (by omega), (by omega)⟩ rfl (fun r688 σ687 hr688 hor688 => ?_)
              obtain ⟨rfl, hfσ687, hpr688⟩ := hr688
              have hz689 : σ678 141 42 = c := by rw [eσ678, dk_up_n (show ¬ (141 = 162 ∧ 42 = i) by omega), hv677]
              have gi690 : QX c r σ668 σ687 := QX_qx gi679 (by omega) hpr688
              refine dk_aload_n (pc' := 133) hE dX11_readRule_132 rfl rfl rfl ?_
              refine gf_11_34 (pc' := 136) (w := 163) hE fl_X11_80 dX11_readRule_133 is_141 rfl rfl ?_
              refine dk_iconst (pc' := 137) hE dX11_readRule_136 (by decide) rfl ?_
              refine dk_aload_n (pc' := 138) hE dX11_readRule_137 rfl rfl rfl ?_
              refine gf_11_41 (pc' := 141) hE fl_X11_374 dX11_readRule_138 is_141 rfl (fun v691 hv691 htv691 hbv691 => ?_)
              have hq691 : v658 = v691 := (show v691 = v658 by rw [hv691, hfσ687 141 41 (by omega), eσ678, dk_up_n (show ¬ (141 = 162 ∧ 41 = i) by omega), hv674]).symm
              subst hq691
              clear htv691 hbv691
              obtain ⟨v692, hv692⟩ : ∃ z : Int, z = 3 * v658 := ⟨_, rfl⟩
              refine dk_imul (pc' := 142) hE dX11_readRule_141 hv692.symm (by omega) rfl ?_
              refine dk_iload_n (pc' := 143) hE dX11_readRule_142 rfl rfl rfl ?_
              obtain ⟨v693, hv693⟩ : ∃ z : Int, z = v692 + 2 := ⟨_, rfl⟩
              refine dk_iadd (pc' := 144) hE dX11_readRule_143 hv693.symm (by omega) rfl ?_
              have hrnv693 : i = v693 := by omega
              subst hrnv693
              refine dk_aload_n (pc' := 145) hE dX11_readRule_144 rfl rfl rfl ?_
              refine gf_11_42 (pc' := 148) hE fl_X11_377 dX11_readRule_145 is_141 rfl (fun v694 hv694 htv694 hbv694 => ?_)
              refine pa_91 (pc' := 149) hE dX11_readRule_148 is_163 (by omega) trivial rfl (fun σ695 eσ695 => ?_)
              have gi696 : QX c r σ668 σ695 := QX_u gi690 (by omega) (by omega) eσ695
              refine dk_aload_n (pc' := 150) hE dX11_readRule_149 rfl rfl rfl ?_
              refine gf_11_40 (pc' := 153) (w := 169) hE fl_X11_98 dX11_readRule_150 is_141 rfl rfl ?_
              refine dk_iconst (pc' := 154) hE dX11_readRule_153 (by decide) rfl ?_
              refine dk_aload_n (pc' := 155) hE dX11_readRule_154 rfl rfl rfl ?_
              refine gf_11_41 (pc' := 158) hE fl_X11_374 dX11_readRule_155 is_141 rfl (fun v697 hv697 htv697 hbv697 => ?_)
              have hq697 : v658 = v697 := (show v697 = v658 by rw [hv697, eσ695, dk_up_n (show ¬ (141 = 163 ∧ 41 = i) by omega), hv691]).symm
              subst hq697
              clear htv697 hbv697
              obtain ⟨v698, hv698⟩ : ∃ z : Int, z = 3 * v658 := ⟨_, rfl⟩
              refine dk_imul (pc' := 159) hE dX11_readRule_158 hv698.symm (by omega) rfl ?_
              refine dk_iload_n (pc' := 160) hE dX11_readRule_159 rfl rfl rfl ?_
              obtain ⟨v699, hv699⟩ : ∃ z : Int, z = v698 + 2 := ⟨_, rfl⟩
              refine dk_iadd (pc' := 161) hE dX11_readRule_160 hv699.symm (by omega) rfl ?_
              have hrnv699 : i = v699 := by omega
              subst hrnv699
              refine dk_iconst (pc' := 162) hE dX11_readRule_161 (by decide) rfl ?_
              refine pa_97 (pc' := 163) hE dX11_readRule_162 is_169 (by omega) (by omega) trivial rfl (fun σ700 eσ700 => ?_)
              have gi701 : QX c r σ668 σ700 := QX_u gi696 (by omega) (by omega) eσ700
              refine dk_aload_n (pc' := 164) hE dX11_readRule_163 rfl rfl rfl ?_
              refine dk_aload_n (pc' := 165) hE dX11_readRule_164 rfl rfl rfl ?_
              refine dk_bipush (pc' := 167) hE dX11_readRule_165 (by decide) rfl ?_
              refine dk_cV (pc' := 170) (as := [(0, 59)]) hE lk_X11_298 (ct_X11_is l G hGd 59) dX11_readRule_167 rfl is_141 rfl (by decide) (Nat.le_of_ble_eq_true rfl) rfl rfl (fun r703 σ702 hr703 hor703 => ?_)
              obtain ⟨v704, rfl, hfσ702, hpr703⟩ := hr703
              have hsσ702 : σ700 = σ702 := (funext (fun k => funext (fun j => hfσ702 k j not_false))).symm
              subst hsσ702
              rcases hpr703 with ⟨rfl, hpr703⟩ | rfl
              · skip
                have hz705 : σ700 141 3 = σ 141 3 := by rw [eσ700, dk_up_n (show ¬ (141 = 169 ∧ 3 = i) by omega), eσ695, dk_up_n (show ¬ (141 = 163 ∧ 3 = i) by omega), hfσ687 141 3 (by omega), eσ678, dk_up_n (show ¬ (141 = 162 ∧ 3 = i) by omega), hfσ668 141 3 (by omega)]
                refine dk_cV (pc' := 173) (as := [(0, 1)]) hE lk_X11_301 (ct_X11_must l G hGd 1) dX11_readRule_170 rfl is_141 rfl (by decide) (Nat.le_of_ble_eq_true rfl) ⟨rfl, (NX_tk (gi701).1), (by omega)⟩ rfl (fun r707 σ706 hr707 hor707 => ?_)
                obtain ⟨rfl, hfσ706, hpr707⟩ := hr707
                have gi708 : QX c r σ668 σ706 := QX_tr gi701 hpr707 (fun k_ j_ h_ => hfσ706 k_ j_ (by omega))
                have hz709 : σ706 141 42 = v694 := by rw [hfσ706 141 42 (by omega), eσ700, dk_up_n (show ¬ (141 = 169 ∧ 42 = i) by omega), eσ695, dk_up_n (show ¬ (141 = 163 ∧ 42 = i) by omega), hv694]
                exact dk_vret (st := []) hE hR dX11_readRule_173 ⟨rfl, (fun k_ j_ h_ => by rw [hfσ706 k_ j_ (fun w_ => h_ (w_.elim (fun x0_ => Or.inl (x0_)) (fun y0_ => y0_.elim (fun x1_ => Or.inr (Or.inl (x1_))) (fun y1_ => y1_.elim (fun x2_ => Or.inr (Or.inr (Or.inl (x2_)))) (fun y2_ => y2_.elim (fun x3_ => Or.inr (Or.inr (Or.inr (Or.inl (x3_))))) (fun y3_ => y3_.elim (fun x4_ => Or.inr (Or.inr (Or.inr (Or.inr (Or.inl (x4_)))))) (fun y4_ => y4_.elim (fun x5_ => Or.inr (Or.inr (Or.inr (Or.inr (Or.inr (Or.inl (x5_))))))) (fun y5_ => Or.inr (Or.inr (Or.inr (Or.inr (Or.inr (Or.inr (Or.inl (y5_))))))))))))))), eσ700, dk_up_n (show ¬ (k_ = 169 ∧ j_ = i) from fun q_ => h_ (Or.inr (Or.inr (Or.inr (Or.inr (Or.inr (Or.inr (Or.inr (Or.inr (Or.inr (Or.inr (Or.inr (Or.inr (Or.inr (q_.1))))))))))))))), eσ695, dk_up_n (show ¬ (k_ = 163 ∧ j_ = i) from fun q_ => h_ (Or.inr (Or.inr (Or.inr (Or.inr (Or.inr (Or.inr (Or.inr (Or.inr (Or.inr (Or.inr (Or.inr (Or.inr (Or.inl (dk_wr (lo := 162) (hi := 163) q_.1 (by decide)))))))))))))))), hfσ687 k_ j_ (fun w_ => h_ (w_.elim (fun x0_ => Or.inl (x0_)) (fun y0_ => y0_.elim (fun x1_ => Or.inr (Or.inl (x1_))) (fun y1_ => y1_.elim (fun x2_ => Or.inr (Or.inr (Or.inl (x2_)))) (fun y2_ => y2_.elim (fun x3_ => Or.inr (Or.inr (Or.inr (Or.inl (x3_))))) (fun y3_ => y3_.elim (fun x4_ => Or.inr (Or.inr (Or.inr (Or.inr (Or.inl (x4_)))))) (fun y4_ => y4_.elim (fun x5_ => Or.inr (Or.inr (Or.inr (Or.inr (Or.inr (Or.inl (x5_))))))) (fun y5_ => y5_.elim (fun x6_ => Or.inr (Or.inr (Or.inr (Or.inr (Or.inr (Or.inr (Or.inl (x6_)))))))) (fun y6_ => y6_.elim (fun x7_ => Or.inr (Or.inr (Or.inr (Or.inr (Or.inr (Or.inr (Or.inr (Or.inl (x7_))))))))) (fun y7_ => y7_.elim (fun x8_ => Or.inr (Or.inr (Or.inr (Or.inr (Or.inr (Or.inr (Or.inr (Or.inr (Or.inl (x8_)))))))))) (fun y8_ => y8_.elim (fun x9_ => Or.inr (Or.inr (Or.inr (Or.inr (Or.inr (Or.inr (Or.inr (Or.inr (Or.inr (Or.inl (x9_))))))))))) (fun y9_ => y9_.elim (fun x10_ => Or.inr (Or.inr (Or.inr (Or.inr (Or.inr (Or.inr (Or.inr (Or.inr (Or.inr (Or.inr (Or.inl (x10_)))))))))))) (fun y10_ => Or.inr (Or.inr (Or.inr (Or.inr (Or.inr (Or.inr (Or.inr (Or.inr (Or.inr (Or.inr (Or.inr (Or.inl (y10_))))))))))))))))))))))))), eσ678, dk_up_n (show ¬ (k_ = 162 ∧ j_ = i) from fun q_ => h_ (Or.inr (Or.inr (Or.inr (Or.inr (Or.inr (Or.inr (Or.inr (Or.inr (Or.inr (Or.inr (Or.inr (Or.inr (Or.inl (dk_wr (lo := 162) (hi := 163) q_.1 (by decide)))))))))))))))), hfσ668 k_ j_ (fun w_ => h_ (w_.elim (fun x0_ => Or.inr (Or.inr (Or.inl (x0_)))) (fun y0_ => y0_.elim (fun x1_ => Or.inr (Or.inr (Or.inr (Or.inl (x1_))))) (fun y1_ => y1_.elim (fun x2_ => Or.inr (Or.inr (Or.inr (Or.inr (Or.inl (x2_)))))) (fun y2_ => y2_.elim (fun x3_ => Or.inr (Or.inr (Or.inr (Or.inr (Or.inr (Or.inl (x3_))))))) (fun y3_ => Or.inr (Or.inr (Or.inr (Or.inr (Or.inr (Or.inr (Or.inl (y3_)))))))))))))]), ⟨NX_tr hB.1 (gi708).1, RS_line (n := 2) hRS hc.symm (QX_qx hB hB2 gi708) (by omega) (fun j_ h_ => ⟨by rw [hfσ706 162 j_ (by omega), eσ700, dk_up_n (show ¬ (162 = 169 ∧ j_ = i) by omega), eσ695, dk_up_n (show ¬ (162 = 163 ∧ j_ = i) by omega), hfσ687 162 j_ (by omega), eσ678, dk_up_n (show ¬ (162 = 162 ∧ j_ = i) by omega), hfσ668 162 j_ (by omega)], by rw [hfσ706 163 j_ (by omega), eσ700, dk_up_n (show ¬ (163 = 169 ∧ j_ = i) by omega), eσ695, dk_up_n (show ¬ (163 = 163 ∧ j_ = i) by omega), hfσ687 163 j_ (by omega), eσ678, dk_up_n (show ¬ (163 = 162 ∧ j_ = i) by omega), hfσ668 163 j_ (by omega)], by rw [hfσ706 169 j_ (by omega), eσ700, dk_up_n (show ¬ (169 = 169 ∧ j_ = i) by omega), eσ695, dk_up_n (show ¬ (169 = 163 ∧ j_ = i) by omega), hfσ687 169 j_ (by omega), eσ678, dk_up_n (show ¬ (169 = 162 ∧ j_ = i) by omega), hfσ668 169 j_ (by omega)]⟩) (fun _ => ⟨by rw [← hi, hfσ706 162 i (by omega), eσ700, dk_up_n (show ¬ (162 = 169 ∧ i = i) by omega), eσ695, dk_up_n (show ¬ (162 = 163 ∧ i = i) by omega), hfσ687 162 i (by omega), eσ678, dk_up_s], by rw [← hi, hfσ706 163 i (by omega), eσ700, dk_up_n (show ¬ (163 = 169 ∧ i = i) by omega), eσ695, dk_up_s]; omega⟩), fun a_ q_ => Or.inr (by have x_ := (gi708).1.2.2.1; have t_ := hT.2.2 q_; have y_ := H85.2.2.1; omega)⟩⟩
              · skip
                have hz710 : σ700 141 3 = σ 141 3 := by rw [eσ700, dk_up_n (show ¬ (141 = 169 ∧ 3 = i) by omega), eσ695, dk_up_n (show ¬ (141 = 163 ∧ 3 = i) by omega), hfσ687 141 3 (by omega), eσ678, dk_up_n (show ¬ (141 = 162 ∧ 3 = i) by omega), hfσ668 141 3 (by omega)]
                refine dk_cV (pc' := 173) (as := [(0, 0)]) hE lk_X11_301 (ct_X11_must l G hGd 0) dX11_readRule_170 rfl is_141 rfl (by decide) (Nat.le_of_ble_eq_true rfl) ⟨rfl, (NX_tk (gi701).1), (by omega)⟩ rfl (fun r712 σ711 hr712 hor712 => ?_)
                obtain ⟨rfl, hfσ711, hpr712⟩ := hr712
                have gi713 : QX c r σ668 σ711 := QX_tr gi701 hpr712 (fun k_ j_ h_ => hfσ711 k_ j_ (by omega))
                have hz714 : σ711 141 42 = v694 := by rw [hfσ711 141 42 (by omega), eσ700, dk_up_n (show ¬ (141 = 169 ∧ 42 = i) by omega), eσ695, dk_up_n (show ¬ (141 = 163 ∧ 42 = i) by omega), hv694]
                exact dk_vret (st := []) hE hR dX11_readRule_173 ⟨rfl, (fun k_ j_ h_ => by rw [hfσ711 k_ j_ (fun w_ => h_ (w_.elim (fun x0_ => Or.inl (x0_)) (fun y0_ => y0_.elim (fun x1_ => Or.inr (Or.inl (x1_))) (fun y1_ => y1_.elim (fun x2_ => Or.inr (Or.inr (Or.inl (x2_)))) (fun y2_ => y2_.elim (fun x3_ => Or.inr (Or.inr (Or.inr (Or.inl (x3_))))) (fun y3_ => y3_.elim (fun x4_ => Or.inr (Or.inr (Or.inr (Or.inr (Or.inl (x4_)))))) (fun y4_ => y4_.elim (fun x5_ => Or.inr (Or.inr (Or.inr (Or.inr (Or.inr (Or.inl (x5_))))))) (fun y5_ => Or.inr (Or.inr (Or.inr (Or.inr (Or.inr (Or.inr (Or.inl (y5_))))))))))))))), eσ700, dk_up_n (show ¬ (k_ = 169 ∧ j_ = i) from fun q_ => h_ (Or.inr (Or.inr (Or.inr (Or.inr (Or.inr (Or.inr (Or.inr (Or.inr (Or.inr (Or.inr (Or.inr (Or.inr (Or.inr (q_.1))))))))))))))), eσ695, dk_up_n (show ¬ (k_ = 163 ∧ j_ = i) from fun q_ => h_ (Or.inr (Or.inr (Or.inr (Or.inr (Or.inr (Or.inr (Or.inr (Or.inr (Or.inr (Or.inr (Or.inr (Or.inr (Or.inl (dk_wr (lo := 162) (hi := 163) q_.1 (by decide)))))))))))))))), hfσ687 k_ j_ (fun w_ => h_ (w_.elim (fun x0_ => Or.inl (x0_)) (fun y0_ => y0_.elim (fun x1_ => Or.inr (Or.inl (x1_))) (fun y1_ => y1_.elim (fun x2_ => Or.inr (Or.inr (Or.inl (x2_)))) (fun y2_ => y2_.elim (fun x3_ => Or.inr (Or.inr (Or.inr (Or.inl (x3_))))) (fun y3_ => y3_.elim (fun x4_ => Or.inr (Or.inr (Or.inr (Or.inr (Or.inl (x4_)))))) (fun y4_ => y4_.elim (fun x5_ => Or.inr (Or.inr (Or.inr (Or.inr (Or.inr (Or.inl (x5_))))))) (fun y5_ => y5_.elim (fun x6_ => Or.inr (Or.inr (Or.inr (Or.inr (Or.inr (Or.inr (Or.inl (x6_)))))))) (fun y6_ => y6_.elim (fun x7_ => Or.inr (Or.inr (Or.inr (Or.inr (Or.inr (Or.inr (Or.inr (Or.inl (x7_))))))))) (fun y7_ => y7_.elim (fun x8_ => Or.inr (Or.inr (Or.inr (Or.inr (Or.inr (Or.inr (Or.inr (Or.inr (Or.inl (x8_)))))))))) (fun y8_ => y8_.elim (fun x9_ => Or.inr (Or.inr (Or.inr (Or.inr (Or.inr (Or.inr (Or.inr (Or.inr (Or.inr (Or.inl (x9_))))))))))) (fun y9_ => y9_.elim (fun x10_ => Or.inr (Or.inr (Or.inr (Or.inr (Or.inr (Or.inr (Or.inr (Or.inr (Or.inr (Or.inr (Or.inl (x10_)))))))))))) (fun y10_ => Or.inr (Or.inr (Or.inr (Or.inr (Or.inr (Or.inr (Or.inr (Or.inr (Or.inr (Or.inr (Or.inr (Or.inl (y10_))))))))))))))))))))))))), eσ678, dk_up_n (show ¬ (k_ = 162 ∧ j_ = i) from fun q_ => h_ (Or.inr (Or.inr (Or.inr (Or.inr (Or.inr (Or.inr (Or.inr (Or.inr (Or.inr (Or.inr (Or.inr (Or.inr (Or.inl (dk_wr (lo := 162) (hi := 163) q_.1 (by decide)))))))))))))))), hfσ668 k_ j_ (fun w_ => h_ (w_.elim (fun x0_ => Or.inr (Or.inr (Or.inl (x0_)))) (fun y0_ => y0_.elim (fun x1_ => Or.inr (Or.inr (Or.inr (Or.inl (x1_))))) (fun y1_ => y1_.elim (fun x2_ => Or.inr (Or.inr (Or.inr (Or.inr (Or.inl (x2_)))))) (fun y2_ => y2_.elim (fun x3_ => Or.inr (Or.inr (Or.inr (Or.inr (Or.inr (Or.inl (x3_))))))) (fun y3_ => Or.inr (Or.inr (Or.inr (Or.inr (Or.inr (Or.inr (Or.inl (y3_)))))))))))))]), ⟨NX_tr hB.1 (gi713).1, RS_line (n := 2) hRS hc.symm (QX_qx hB hB2 gi713) (by omega) (fun j_ h_ => ⟨by rw [hfσ711 162 j_ (by omega), eσ700, dk_up_n (show ¬ (162 = 169 ∧ j_ = i) by omega), eσ695, dk_up_n (show ¬ (162 = 163 ∧ j_ = i) by omega), hfσ687 162 j_ (by omega), eσ678, dk_up_n (show ¬ (162 = 162 ∧ j_ = i) by omega), hfσ668 162 j_ (by omega)], by rw [hfσ711 163 j_ (by omega), eσ700, dk_up_n (show ¬ (163 = 169 ∧ j_ = i) by omega), eσ695, dk_up_n (show ¬ (163 = 163 ∧ j_ = i) by omega), hfσ687 163 j_ (by omega), eσ678, dk_up_n (show ¬ (163 = 162 ∧ j_ = i) by omega), hfσ668 163 j_ (by omega)], by rw [hfσ711 169 j_ (by omega), eσ700, dk_up_n (show ¬ (169 = 169 ∧ j_ = i) by omega), eσ695, dk_up_n (show ¬ (169 = 163 ∧ j_ = i) by omega), hfσ687 169 j_ (by omega), eσ678, dk_up_n (show ¬ (169 = 162 ∧ j_ = i) by omega), hfσ668 169 j_ (by omega)]⟩) (fun _ => ⟨by rw [← hi, hfσ711 162 i (by omega), eσ700, dk_up_n (show ¬ (162 = 169 ∧ i = i) by omega), eσ695, dk_up_n (show ¬ (162 = 163 ∧ i = i) by omega), hfσ687 162 i (by omega), eσ678, dk_up_s], by rw [← hi, hfσ711 163 i (by omega), eσ700, dk_up_n (show ¬ (163 = 169 ∧ i = i) by omega), eσ695, dk_up_s]; omega⟩), fun a_ q_ => Or.inr (by have x_ := (gi713).1.2.2.1; have t_ := hT.2.2 q_; have y_ := H85.2.2.1; omega)⟩⟩
            · skip
              refine dk_if_eq (tgt := 132) (pc' := 128) hE dX11_readRule_125 (by decide) rfl (fun hc715 => ?_) (fun hc715 => absurd hc715 (by decide))
              refine dk_aload_n (pc' := 133) hE dX11_readRule_132 rfl rfl rfl ?_
              refine gf_11_34 (pc' := 136) (w := 163) hE fl_X11_80 dX11_readRule_133 is_141 rfl rfl ?_
              refine dk_iconst (pc' := 137) hE dX11_readRule_136 (by decide) rfl ?_
              refine dk_aload_n (pc' := 138) hE dX11_readRule_137 rfl rfl rfl ?_
              refine gf_11_41 (pc' := 141) hE fl_X11_374 dX11_readRule_138 is_141 rfl (fun v716 hv716 htv716 hbv716 => ?_)
              have hq716 : v658 = v716 := (show v716 = v658 by rw [hv716, eσ678, dk_up_n (show ¬ (141 = 162 ∧ 41 = i) by omega), hv674]).symm
              subst hq716
              clear htv716 hbv716
              obtain ⟨v717, hv717⟩ : ∃ z : Int, z = 3 * v658 := ⟨_, rfl⟩
              refine dk_imul (pc' := 142) hE dX11_readRule_141 hv717.symm (by omega) rfl ?_
              refine dk_iload_n (pc' := 143) hE dX11_readRule_142 rfl rfl rfl ?_
              obtain ⟨v718, hv718⟩ : ∃ z : Int, z = v717 + 2 := ⟨_, rfl⟩
              refine dk_iadd (pc' := 144) hE dX11_readRule_143 hv718.symm (by omega) rfl ?_
              have hrnv718 : i = v718 := by omega
              subst hrnv718
              refine dk_aload_n (pc' := 145) hE dX11_readRule_144 rfl rfl rfl ?_
              refine gf_11_42 (pc' := 148) hE fl_X11_377 dX11_readRule_145 is_141 rfl (fun v719 hv719 htv719 hbv719 => ?_)
              have hq719 : c = v719 := (show v719 = c by rw [hv719, eσ678, dk_up_n (show ¬ (141 = 162 ∧ 42 = i) by omega), hv677]).symm
              subst hq719
              clear htv719 hbv719
              refine pa_91 (pc' := 149) hE dX11_readRule_148 is_163 (by omega) trivial rfl (fun σ720 eσ720 => ?_)
              have gi721 : QX c r σ668 σ720 := QX_u gi679 (by omega) (by omega) eσ720
              refine dk_aload_n (pc' := 150) hE dX11_readRule_149 rfl rfl rfl ?_
              refine gf_11_40 (pc' := 153) (w := 169) hE fl_X11_98 dX11_readRule_150 is_141 rfl rfl ?_
              refine dk_iconst (pc' := 154) hE dX11_readRule_153 (by decide) rfl ?_
              refine dk_aload_n (pc' := 155) hE dX11_readRule_154 rfl rfl rfl ?_
              refine gf_11_41 (pc' := 158) hE fl_X11_374 dX11_readRule_155 is_141 rfl (fun v722 hv722 htv722 hbv722 => ?_)
              have hq722 : v658 = v722 := (show v722 = v658 by rw [hv722, eσ720, dk_up_n (show ¬ (141 = 163 ∧ 41 = i) by omega), hv716]).symm
              subst hq722
              clear htv722 hbv722
              obtain ⟨v723, hv723⟩ : ∃ z : Int, z = 3 * v658 := ⟨_, rfl⟩
              refine dk_imul (pc' := 159) hE dX11_readRule_158 hv723.symm (by omega) rfl ?_
              refine dk_iload_n (pc' := 160) hE dX11_readRule_159 rfl rfl rfl ?_
              obtain ⟨v724, hv724⟩ : ∃ z : Int, z = v723 + 2 := ⟨_, rfl⟩
              refine dk_iadd (pc' := 161) hE dX11_readRule_160 hv724.symm (by omega) rfl ?_
              have hrnv724 : i = v724 := by omega
              subst hrnv724
              refine dk_iconst (pc' := 162) hE dX11_readRule_161 (by decide) rfl ?_
              refine pa_97 (pc' := 163) hE dX11_readRule_162 is_169 (by omega) (by omega) trivial rfl (fun σ725 eσ725 => ?_)
              have gi726 : QX c r σ668 σ725 := QX_u gi721 (by omega) (by omega) eσ725
              refine dk_aload_n (pc' := 164) hE dX11_readRule_163 rfl rfl rfl ?_
              refine dk_aload_n (pc' := 165) hE dX11_readRule_164 rfl rfl rfl ?_
              refine dk_bipush (pc' := 167) hE dX11_readRule_165 (by decide) rfl ?_
              refine dk_cV (pc' := 170) (as := [(0, 59)]) hE lk_X11_298 (ct_X11_is l G hGd 59) dX11_readRule_167 rfl is_141 rfl (by decide) (Nat.le_of_ble_eq_true rfl) rfl rfl (fun r728 σ727 hr728 hor728 => ?_)
              obtain ⟨v729, rfl, hfσ727, hpr728⟩ := hr728
              have hsσ727 : σ725 = σ727 := (funext (fun k => funext (fun j => hfσ727 k j not_false))).symm
              subst hsσ727
              rcases hpr728 with ⟨rfl, hpr728⟩ | rfl
              · skip
                have hz730 : σ725 141 3 = σ 141 3 := by rw [eσ725, dk_up_n (show ¬ (141 = 169 ∧ 3 = i) by omega), eσ720, dk_up_n (show ¬ (141 = 163 ∧ 3 = i) by omega), eσ678, dk_up_n (show ¬ (141 = 162 ∧ 3 = i) by omega), hfσ668 141 3 (by omega)]
                refine dk_cV (pc' := 173) (as := [(0, 1)]) hE lk_X11_301 (ct_X11_must l G hGd 1) dX11_readRule_170 rfl is_141 rfl (by decide) (Nat.le_of_ble_eq_true rfl) ⟨rfl, (NX_tk (gi726).1), (by omega)⟩ rfl (fun r732 σ731 hr732 hor732 => ?_)
                obtain ⟨rfl, hfσ731, hpr732⟩ := hr732
                have gi733 : QX c r σ668 σ731 := QX_tr gi726 hpr732 (fun k_ j_ h_ => hfσ731 k_ j_ (by omega))
                have hz734 : σ731 141 42 = c := by rw [hfσ731 141 42 (by omega), eσ725, dk_up_n (show ¬ (141 = 169 ∧ 42 = i) by omega), eσ720, dk_up_n (show ¬ (141 = 163 ∧ 42 = i) by omega), hv719]
                exact dk_vret (st := []) hE hR dX11_readRule_173 ⟨rfl, (fun k_ j_ h_ => by rw [hfσ731 k_ j_ (fun w_ => h_ (w_.elim (fun x0_ => Or.inl (x0_)) (fun y0_ => y0_.elim (fun x1_ => Or.inr (Or.inl (x1_))) (fun y1_ => y1_.elim (fun x2_ => Or.inr (Or.inr (Or.inl (x2_)))) (fun y2_ => y2_.elim (fun x3_ => Or.inr (Or.inr (Or.inr (Or.inl (x3_))))) (fun y3_ => y3_.elim (fun x4_ => Or.inr (Or.inr (Or.inr (Or.inr (Or.inl (x4_)))))) (fun y4_ => y4_.elim (fun x5_ => Or.inr (Or.inr (Or.inr (Or.inr (Or.inr (Or.inl (x5_))))))) (fun y5_ => Or.inr (Or.inr (Or.inr (Or.inr (Or.inr (Or.inr (Or.inl (y5_))))))))))))))), eσ725, dk_up_n (show ¬ (k_ = 169 ∧ j_ = i) from fun q_ => h_ (Or.inr (Or.inr (Or.inr (Or.inr (Or.inr (Or.inr (Or.inr (Or.inr (Or.inr (Or.inr (Or.inr (Or.inr (Or.inr (q_.1))))))))))))))), eσ720, dk_up_n (show ¬ (k_ = 163 ∧ j_ = i) from fun q_ => h_ (Or.inr (Or.inr (Or.inr (Or.inr (Or.inr (Or.inr (Or.inr (Or.inr (Or.inr (Or.inr (Or.inr (Or.inr (Or.inl (dk_wr (lo := 162) (hi := 163) q_.1 (by decide)))))))))))))))), eσ678, dk_up_n (show ¬ (k_ = 162 ∧ j_ = i) from fun q_ => h_ (Or.inr (Or.inr (Or.inr (Or.inr (Or.inr (Or.inr (Or.inr (Or.inr (Or.inr (Or.inr (Or.inr (Or.inr (Or.inl (dk_wr (lo := 162) (hi := 163) q_.1 (by decide)))))))))))))))), hfσ668 k_ j_ (fun w_ => h_ (w_.elim (fun x0_ => Or.inr (Or.inr (Or.inl (x0_)))) (fun y0_ => y0_.elim (fun x1_ => Or.inr (Or.inr (Or.inr (Or.inl (x1_))))) (fun y1_ => y1_.elim (fun x2_ => Or.inr (Or.inr (Or.inr (Or.inr (Or.inl (x2_)))))) (fun y2_ => y2_.elim (fun x3_ => Or.inr (Or.inr (Or.inr (Or.inr (Or.inr (Or.inl (x3_))))))) (fun y3_ => Or.inr (Or.inr (Or.inr (Or.inr (Or.inr (Or.inr (Or.inl (y3_)))))))))))))]), ⟨NX_tr hB.1 (gi733).1, RS_line (n := 2) hRS hc.symm (QX_qx hB hB2 gi733) (by omega) (fun j_ h_ => ⟨by rw [hfσ731 162 j_ (by omega), eσ725, dk_up_n (show ¬ (162 = 169 ∧ j_ = i) by omega), eσ720, dk_up_n (show ¬ (162 = 163 ∧ j_ = i) by omega), eσ678, dk_up_n (show ¬ (162 = 162 ∧ j_ = i) by omega), hfσ668 162 j_ (by omega)], by rw [hfσ731 163 j_ (by omega), eσ725, dk_up_n (show ¬ (163 = 169 ∧ j_ = i) by omega), eσ720, dk_up_n (show ¬ (163 = 163 ∧ j_ = i) by omega), eσ678, dk_up_n (show ¬ (163 = 162 ∧ j_ = i) by omega), hfσ668 163 j_ (by omega)], by rw [hfσ731 169 j_ (by omega), eσ725, dk_up_n (show ¬ (169 = 169 ∧ j_ = i) by omega), eσ720, dk_up_n (show ¬ (169 = 163 ∧ j_ = i) by omega), eσ678, dk_up_n (show ¬ (169 = 162 ∧ j_ = i) by omega), hfσ668 169 j_ (by omega)]⟩) (fun _ => ⟨by rw [← hi, hfσ731 162 i (by omega), eσ725, dk_up_n (show ¬ (162 = 169 ∧ i = i) by omega), eσ720, dk_up_n (show ¬ (162 = 163 ∧ i = i) by omega), eσ678, dk_up_s], by rw [← hi, hfσ731 163 i (by omega), eσ725, dk_up_n (show ¬ (163 = 169 ∧ i = i) by omega), eσ720, dk_up_s]; omega⟩), fun a_ q_ => Or.inr (by have x_ := (gi733).1.2.2.1; have t_ := hT.2.2 q_; have y_ := H85.2.2.1; omega)⟩⟩
              · skip
                have hz735 : σ725 141 3 = σ 141 3 := by rw [eσ725, dk_up_n (show ¬ (141 = 169 ∧ 3 = i) by omega), eσ720, dk_up_n (show ¬ (141 = 163 ∧ 3 = i) by omega), eσ678, dk_up_n (show ¬ (141 = 162 ∧ 3 = i) by omega), hfσ668 141 3 (by omega)]
                refine dk_cV (pc' := 173) (as := [(0, 0)]) hE lk_X11_301 (ct_X11_must l G hGd 0) dX11_readRule_170 rfl is_141 rfl (by decide) (Nat.le_of_ble_eq_true rfl) ⟨rfl, (NX_tk (gi726).1), (by omega)⟩ rfl (fun r737 σ736 hr737 hor737 => ?_)
                obtain ⟨rfl, hfσ736, hpr737⟩ := hr737
                have gi738 : QX c r σ668 σ736 := QX_tr gi726 hpr737 (fun k_ j_ h_ => hfσ736 k_ j_ (by omega))
                have hz739 : σ736 141 42 = c := by rw [hfσ736 141 42 (by omega), eσ725, dk_up_n (show ¬ (141 = 169 ∧ 42 = i) by omega), eσ720, dk_up_n (show ¬ (141 = 163 ∧ 42 = i) by omega), hv719]
                exact dk_vret (st := []) hE hR dX11_readRule_173 ⟨rfl, (fun k_ j_ h_ => by rw [hfσ736 k_ j_ (fun w_ => h_ (w_.elim (fun x0_ => Or.inl (x0_)) (fun y0_ => y0_.elim (fun x1_ => Or.inr (Or.inl (x1_))) (fun y1_ => y1_.elim (fun x2_ => Or.inr (Or.inr (Or.inl (x2_)))) (fun y2_ => y2_.elim (fun x3_ => Or.inr (Or.inr (Or.inr (Or.inl (x3_))))) (fun y3_ => y3_.elim (fun x4_ => Or.inr (Or.inr (Or.inr (Or.inr (Or.inl (x4_)))))) (fun y4_ => y4_.elim (fun x5_ => Or.inr (Or.inr (Or.inr (Or.inr (Or.inr (Or.inl (x5_))))))) (fun y5_ => Or.inr (Or.inr (Or.inr (Or.inr (Or.inr (Or.inr (Or.inl (y5_))))))))))))))), eσ725, dk_up_n (show ¬ (k_ = 169 ∧ j_ = i) from fun q_ => h_ (Or.inr (Or.inr (Or.inr (Or.inr (Or.inr (Or.inr (Or.inr (Or.inr (Or.inr (Or.inr (Or.inr (Or.inr (Or.inr (q_.1))))))))))))))), eσ720, dk_up_n (show ¬ (k_ = 163 ∧ j_ = i) from fun q_ => h_ (Or.inr (Or.inr (Or.inr (Or.inr (Or.inr (Or.inr (Or.inr (Or.inr (Or.inr (Or.inr (Or.inr (Or.inr (Or.inl (dk_wr (lo := 162) (hi := 163) q_.1 (by decide)))))))))))))))), eσ678, dk_up_n (show ¬ (k_ = 162 ∧ j_ = i) from fun q_ => h_ (Or.inr (Or.inr (Or.inr (Or.inr (Or.inr (Or.inr (Or.inr (Or.inr (Or.inr (Or.inr (Or.inr (Or.inr (Or.inl (dk_wr (lo := 162) (hi := 163) q_.1 (by decide)))))))))))))))), hfσ668 k_ j_ (fun w_ => h_ (w_.elim (fun x0_ => Or.inr (Or.inr (Or.inl (x0_)))) (fun y0_ => y0_.elim (fun x1_ => Or.inr (Or.inr (Or.inr (Or.inl (x1_))))) (fun y1_ => y1_.elim (fun x2_ => Or.inr (Or.inr (Or.inr (Or.inr (Or.inl (x2_)))))) (fun y2_ => y2_.elim (fun x3_ => Or.inr (Or.inr (Or.inr (Or.inr (Or.inr (Or.inl (x3_))))))) (fun y3_ => Or.inr (Or.inr (Or.inr (Or.inr (Or.inr (Or.inr (Or.inl (y3_)))))))))))))]), ⟨NX_tr hB.1 (gi738).1, RS_line (n := 2) hRS hc.symm (QX_qx hB hB2 gi738) (by omega) (fun j_ h_ => ⟨by rw [hfσ736 162 j_ (by omega), eσ725, dk_up_n (show ¬ (162 = 169 ∧ j_ = i) by omega), eσ720, dk_up_n (show ¬ (162 = 163 ∧ j_ = i) by omega), eσ678, dk_up_n (show ¬ (162 = 162 ∧ j_ = i) by omega), hfσ668 162 j_ (by omega)], by rw [hfσ736 163 j_ (by omega), eσ725, dk_up_n (show ¬ (163 = 169 ∧ j_ = i) by omega), eσ720, dk_up_n (show ¬ (163 = 163 ∧ j_ = i) by omega), eσ678, dk_up_n (show ¬ (163 = 162 ∧ j_ = i) by omega), hfσ668 163 j_ (by omega)], by rw [hfσ736 169 j_ (by omega), eσ725, dk_up_n (show ¬ (169 = 169 ∧ j_ = i) by omega), eσ720, dk_up_n (show ¬ (169 = 163 ∧ j_ = i) by omega), eσ678, dk_up_n (show ¬ (169 = 162 ∧ j_ = i) by omega), hfσ668 169 j_ (by omega)]⟩) (fun _ => ⟨by rw [← hi, hfσ736 162 i (by omega), eσ725, dk_up_n (show ¬ (162 = 169 ∧ i = i) by omega), eσ720, dk_up_n (show ¬ (162 = 163 ∧ i = i) by omega), eσ678, dk_up_s], by rw [← hi, hfσ736 163 i (by omega), eσ725, dk_up_n (show ¬ (163 = 169 ∧ i = i) by omega), eσ720, dk_up_s]; omega⟩), fun a_ q_ => Or.inr (by have x_ := (gi738).1.2.2.1; have t_ := hT.2.2 q_; have y_ := H85.2.2.1; omega)⟩⟩
          · skip
            refine dk_if_ne (tgt := 84) (pc' := 83) hE dX11_readRule_80 (by decide) rfl (fun hc740 => absurd hc740 (by decide)) (fun hc740 => ?_)
            have hz741 : σ 141 42 = c := by rw [hc]
            exact dk_vret (st := []) hE hR dX11_readRule_83 ⟨rfl, (fun k_ j_ h_ => rfl), ⟨((QX_of hT hRS.1 hc)).1, RS_fr hRS ((QX_of hT hRS.1 hc)).1 (fun k_ j_ h_ => rfl), fun a_ q_ => Or.inl (by omega)⟩⟩
        · skip
          refine dk_aload_n (pc' := 73) hE dX11_readRule_72 rfl rfl rfl ?_
          refine dk_cV (pc' := 76) (as := []) hE lk_X11_257 (ct_X11_wrong l G hGd) dX11_readRule_73 rfl is_141 rfl (by decide) (Nat.le_of_ble_eq_true rfl) rfl rfl (fun r743 σ742 hr743 hor743 => ?_)
          obtain ⟨rfl, hfσ742, hpr743⟩ := hr743
          have gi744 : QX c r σ σ742 := QX_f (QX_of hT hRS.1 hc) hfσ742 hpr743
          refine dk_aload_n (pc' := 77) hE dX11_readRule_76 rfl rfl rfl ?_
          refine dk_cV (pc' := 80) (as := []) hE lk_X11_250 (ct_X11_isGood l G hGd) dX11_readRule_77 rfl is_141 rfl (by decide) (Nat.le_of_ble_eq_true rfl) rfl rfl (fun r746 σ745 hr746 hor746 => ?_)
          obtain ⟨v747, rfl, hfσ745, hpr746⟩ := hr746
          have hsσ745 : σ742 = σ745 := (funext (fun k => funext (fun j => hfσ745 k j not_false))).symm
          subst hsσ745
          rcases hpr746 with ⟨rfl, hpr746⟩ | ⟨rfl, hpr746⟩
          · skip
            refine dk_if_ne (tgt := 84) (pc' := 83) hE dX11_readRule_80 (by decide) rfl (fun hc748 => ?_) (fun hc748 => absurd hc748 (by decide))
            refine dk_aload_n (pc' := 85) hE dX11_readRule_84 rfl rfl rfl ?_
            have hz749 : σ742 141 7 = σ 141 7 := by rw [hfσ742 141 7 (by omega)]
            have hz750 : σ742 141 3 = σ 141 3 := by rw [hfσ742 141 3 (by omega)]
            have hz751 : σ742 141 3 = σ 141 3 := by rw [hfσ742 141 3 (by omega)]
            refine dk_cV (pc' := 88) (as := []) hE lk_X11_254 (ct_X11_next l G hGd) dX11_readRule_85 rfl is_141 rfl (by decide) (Nat.le_of_ble_eq_true rfl) ⟨rfl, ((NX_tk (gi744).1).2.1), (by omega)⟩ rfl (fun r753 σ752 hr753 hor753 => ?_)
            obtain ⟨rfl, hfσ752, hpr753⟩ := hr753
            have H85 := hpr753
            have gi754 : QX c r σ σ752 := QX_y gi744 hpr753 (fun k_ j_ h_ => hfσ752 k_ j_ (by omega))
            have hB : QX c r σ σ752 := gi754
            have hB2 : σ752 141 42 = c := by rw [hfσ752 141 42 (by omega), hfσ742 141 42 (by omega)]; exact hc.symm
            have gi755 : QX c r σ752 σ752 := QX_of (NX_tk hB.1) hB.2.1 hB2.symm
            refine dk_iload_n (pc' := 89) hE dX11_readRule_88 rfl rfl rfl ?_
            refine dk_iconst (pc' := 90) hE dX11_readRule_89 (by decide) rfl ?_
            refine dk_icmp_eq (tgt := 104) (pc' := 93) hE dX11_readRule_90 (by decide) rfl (fun hc756 => ?_) (fun hc756 => absurd hc756 (by decide))
            obtain ⟨i, hi⟩ : ∃ i : Int, i = 3 * r + 2 := ⟨_, rfl⟩
            have gi757 : QX c r σ752 σ752 := gi755
            refine dk_aload_n (pc' := 105) hE dX11_readRule_104 rfl rfl rfl ?_
            refine gf_11_33 (pc' := 108) (w := 162) hE fl_X11_77 dX11_readRule_105 is_141 rfl rfl ?_
            refine dk_iconst (pc' := 109) hE dX11_readRule_108 (by decide) rfl ?_
            refine dk_aload_n (pc' := 110) hE dX11_readRule_109 rfl rfl rfl ?_
            refine gf_11_41 (pc' := 113) hE fl_X11_374 dX11_readRule_110 is_141 rfl (fun v758 hv758 htv758 hbv758 => ?_)
            have hq758 : v658 = v758 := (show v758 = v658 by rw [hv758, hfσ752 141 41 (by omega), hfσ742 141 41 (by omega), hv658]).symm
            subst hq758
            clear htv758 hbv758
            obtain ⟨v759, hv759⟩ : ∃ z : Int, z = 3 * v658 := ⟨_, rfl⟩
            refine dk_imul (pc' := 114) hE dX11_readRule_113 hv759.symm (by omega) rfl ?_
            refine dk_iload_n (pc' := 115) hE dX11_readRule_114 rfl rfl rfl ?_
            obtain ⟨v760, hv760⟩ : ∃ z : Int, z = v759 + 2 := ⟨_, rfl⟩
            refine dk_iadd (pc' := 116) hE dX11_readRule_115 hv760.symm (by omega) rfl ?_
            have hrnv760 : i = v760 := by omega
            subst hrnv760
            refine dk_aload_n (pc' := 117) hE dX11_readRule_116 rfl rfl rfl ?_
            refine gf_11_42 (pc' := 120) hE fl_X11_377 dX11_readRule_117 is_141 rfl (fun v761 hv761 htv761 hbv761 => ?_)
            have hq761 : c = v761 := (show v761 = c by rw [hv761, hfσ752 141 42 (by omega), hfσ742 141 42 (by omega), hc]).symm
            subst hq761
            clear htv761 hbv761
            refine pa_90 (pc' := 121) hE dX11_readRule_120 is_162 (by omega) trivial rfl (fun σ762 eσ762 => ?_)
            have gi763 : QX c r σ752 σ762 := QX_u gi757 (by omega) (by omega) eσ762
            refine dk_aload_n (pc' := 122) hE dX11_readRule_121 rfl rfl rfl ?_
            refine dk_cV (pc' := 125) (as := []) hE lk_X11_250 (ct_X11_isGood l G hGd) dX11_readRule_122 rfl is_141 rfl (by decide) (Nat.le_of_ble_eq_true rfl) rfl rfl (fun r765 σ764 hr765 hor765 => ?_)
            obtain ⟨v766, rfl, hfσ764, hpr765⟩ := hr765
            have hsσ764 : σ762 = σ764 := (funext (fun k => funext (fun j => hfσ764 k j not_false))).symm
            subst hsσ764
            rcases hpr765 with ⟨rfl, hpr765⟩ | ⟨rfl, hpr765⟩
            · skip
              refine dk_if_eq (tgt := 132) (pc' := 128) hE dX11_readRule_125 (by decide) rfl (fun hc767 => absurd hc767 (by decide)) (fun hc767 => ?_)
              refine dk_aload_n (pc' := 129) hE dX11_readRule_128 rfl rfl rfl ?_
              have hz768 : σ762 141 3 = σ 141 3 := by rw [eσ762, dk_up_n (show ¬ (141 = 162 ∧ 3 = i) by omega), hfσ752 141 3 (by omega), hfσ742 141 3 (by omega)]
              have hz769 : σ762 141 42 = c := by rw [eσ762, dk_up_n (show ¬ (141 = 162 ∧ 42 = i) by omega), hv761]
              refine dk_cV (pc' := 132) (as := []) hE lk_X11_386 (ct_X11_e l G hGd c r) dX11_readRule_129 rfl is_141 rfl (by decide) (Nat.le_of_ble_eq_true rfl) ⟨rfl, (NX_tk (gi763).1), (by omega), ((gi763).2.1), (by omega), (by omega)⟩ rfl (fun r771 σ770 hr771 hor771 => ?_)
              obtain ⟨rfl, hfσ770, hpr771⟩ := hr771
              have hz772 : σ762 141 42 = c := by rw [eσ762, dk_up_n (show ¬ (141 = 162 ∧ 42 = i) by omega), hv761]
              have gi773 : QX c r σ752 σ770 := QX_qx gi763 (by omega) hpr771
              refine dk_aload_n (pc' := 133) hE dX11_readRule_132 rfl rfl rfl ?_
              refine gf_11_34 (pc' := 136) (w := 163) hE fl_X11_80 dX11_readRule_133 is_141 rfl rfl ?_
              refine dk_iconst (pc' := 137) hE dX11_readRule_136 (by decide) rfl ?_
              refine dk_aload_n (pc' := 138) hE dX11_readRule_137 rfl rfl rfl ?_
              refine gf_11_41 (pc' := 141) hE fl_X11_374 dX11_readRule_138 is_141 rfl (fun v774 hv774 htv774 hbv774 => ?_)
              have hq774 : v658 = v774 := (show v774 = v658 by rw [hv774, hfσ770 141 41 (by omega), eσ762, dk_up_n (show ¬ (141 = 162 ∧ 41 = i) by omega), hv758]).symm
              subst hq774
              clear htv774 hbv774
              obtain ⟨v775, hv775⟩ : ∃ z : Int, z = 3 * v658 := ⟨_, rfl⟩
              refine dk_imul (pc' := 142) hE dX11_readRule_141 hv775.symm (by omega) rfl ?_
              refine dk_iload_n (pc' := 143) hE dX11_readRule_142 rfl rfl rfl ?_
              obtain ⟨v776, hv776⟩ : ∃ z : Int, z = v775 + 2 := ⟨_, rfl⟩
              refine dk_iadd (pc' := 144) hE dX11_readRule_143 hv776.symm (by omega) rfl ?_
              have hrnv776 : i = v776 := by omega
              subst hrnv776
              refine dk_aload_n (pc' := 145) hE dX11_readRule_144 rfl rfl rfl ?_
              refine gf_11_42 (pc' := 148) hE fl_X11_377 dX11_readRule_145 is_141 rfl (fun v777 hv777 htv777 hbv777 => ?_)
              refine pa_91 (pc' := 149) hE dX11_readRule_148 is_163 (by omega) trivial rfl (fun σ778 eσ778 => ?_)
              have gi779 : QX c r σ752 σ778 := QX_u gi773 (by omega) (by omega) eσ778
              refine dk_aload_n (pc' := 150) hE dX11_readRule_149 rfl rfl rfl ?_
              refine gf_11_40 (pc' := 153) (w := 169) hE fl_X11_98 dX11_readRule_150 is_141 rfl rfl ?_
              refine dk_iconst (pc' := 154) hE dX11_readRule_153 (by decide) rfl ?_
              refine dk_aload_n (pc' := 155) hE dX11_readRule_154 rfl rfl rfl ?_
              refine gf_11_41 (pc' := 158) hE fl_X11_374 dX11_readRule_155 is_141 rfl (fun v780 hv780 htv780 hbv780 => ?_)
              have hq780 : v658 = v780 := (show v780 = v658 by rw [hv780, eσ778, dk_up_n (show ¬ (141 = 163 ∧ 41 = i) by omega), hv774]).symm
              subst hq780
              clear htv780 hbv780
              obtain ⟨v781, hv781⟩ : ∃ z : Int, z = 3 * v658 := ⟨_, rfl⟩
              refine dk_imul (pc' := 159) hE dX11_readRule_158 hv781.symm (by omega) rfl ?_
              refine dk_iload_n (pc' := 160) hE dX11_readRule_159 rfl rfl rfl ?_
              obtain ⟨v782, hv782⟩ : ∃ z : Int, z = v781 + 2 := ⟨_, rfl⟩
              refine dk_iadd (pc' := 161) hE dX11_readRule_160 hv782.symm (by omega) rfl ?_
              have hrnv782 : i = v782 := by omega
              subst hrnv782
              refine dk_iconst (pc' := 162) hE dX11_readRule_161 (by decide) rfl ?_
              refine pa_97 (pc' := 163) hE dX11_readRule_162 is_169 (by omega) (by omega) trivial rfl (fun σ783 eσ783 => ?_)
              have gi784 : QX c r σ752 σ783 := QX_u gi779 (by omega) (by omega) eσ783
              refine dk_aload_n (pc' := 164) hE dX11_readRule_163 rfl rfl rfl ?_
              refine dk_aload_n (pc' := 165) hE dX11_readRule_164 rfl rfl rfl ?_
              refine dk_bipush (pc' := 167) hE dX11_readRule_165 (by decide) rfl ?_
              refine dk_cV (pc' := 170) (as := [(0, 59)]) hE lk_X11_298 (ct_X11_is l G hGd 59) dX11_readRule_167 rfl is_141 rfl (by decide) (Nat.le_of_ble_eq_true rfl) rfl rfl (fun r786 σ785 hr786 hor786 => ?_)
              obtain ⟨v787, rfl, hfσ785, hpr786⟩ := hr786
              have hsσ785 : σ783 = σ785 := (funext (fun k => funext (fun j => hfσ785 k j not_false))).symm
              subst hsσ785
              rcases hpr786 with ⟨rfl, hpr786⟩ | rfl
              · skip
                have hz788 : σ783 141 3 = σ 141 3 := by rw [eσ783, dk_up_n (show ¬ (141 = 169 ∧ 3 = i) by omega), eσ778, dk_up_n (show ¬ (141 = 163 ∧ 3 = i) by omega), hfσ770 141 3 (by omega), eσ762, dk_up_n (show ¬ (141 = 162 ∧ 3 = i) by omega), hfσ752 141 3 (by omega), hfσ742 141 3 (by omega)]
                refine dk_cV (pc' := 173) (as := [(0, 1)]) hE lk_X11_301 (ct_X11_must l G hGd 1) dX11_readRule_170 rfl is_141 rfl (by decide) (Nat.le_of_ble_eq_true rfl) ⟨rfl, (NX_tk (gi784).1), (by omega)⟩ rfl (fun r790 σ789 hr790 hor790 => ?_)
                obtain ⟨rfl, hfσ789, hpr790⟩ := hr790
                have gi791 : QX c r σ752 σ789 := QX_tr gi784 hpr790 (fun k_ j_ h_ => hfσ789 k_ j_ (by omega))
                have hz792 : σ789 141 42 = v777 := by rw [hfσ789 141 42 (by omega), eσ783, dk_up_n (show ¬ (141 = 169 ∧ 42 = i) by omega), eσ778, dk_up_n (show ¬ (141 = 163 ∧ 42 = i) by omega), hv777]
                exact dk_vret (st := []) hE hR dX11_readRule_173 ⟨rfl, (fun k_ j_ h_ => by rw [hfσ789 k_ j_ (fun w_ => h_ (w_.elim (fun x0_ => Or.inl (x0_)) (fun y0_ => y0_.elim (fun x1_ => Or.inr (Or.inl (x1_))) (fun y1_ => y1_.elim (fun x2_ => Or.inr (Or.inr (Or.inl (x2_)))) (fun y2_ => y2_.elim (fun x3_ => Or.inr (Or.inr (Or.inr (Or.inl (x3_))))) (fun y3_ => y3_.elim (fun x4_ => Or.inr (Or.inr (Or.inr (Or.inr (Or.inl (x4_)))))) (fun y4_ => y4_.elim (fun x5_ => Or.inr (Or.inr (Or.inr (Or.inr (Or.inr (Or.inl (x5_))))))) (fun y5_ => Or.inr (Or.inr (Or.inr (Or.inr (Or.inr (Or.inr (Or.inl (y5_))))))))))))))), eσ783, dk_up_n (show ¬ (k_ = 169 ∧ j_ = i) from fun q_ => h_ (Or.inr (Or.inr (Or.inr (Or.inr (Or.inr (Or.inr (Or.inr (Or.inr (Or.inr (Or.inr (Or.inr (Or.inr (Or.inr (q_.1))))))))))))))), eσ778, dk_up_n (show ¬ (k_ = 163 ∧ j_ = i) from fun q_ => h_ (Or.inr (Or.inr (Or.inr (Or.inr (Or.inr (Or.inr (Or.inr (Or.inr (Or.inr (Or.inr (Or.inr (Or.inr (Or.inl (dk_wr (lo := 162) (hi := 163) q_.1 (by decide)))))))))))))))), hfσ770 k_ j_ (fun w_ => h_ (w_.elim (fun x0_ => Or.inl (x0_)) (fun y0_ => y0_.elim (fun x1_ => Or.inr (Or.inl (x1_))) (fun y1_ => y1_.elim (fun x2_ => Or.inr (Or.inr (Or.inl (x2_)))) (fun y2_ => y2_.elim (fun x3_ => Or.inr (Or.inr (Or.inr (Or.inl (x3_))))) (fun y3_ => y3_.elim (fun x4_ => Or.inr (Or.inr (Or.inr (Or.inr (Or.inl (x4_)))))) (fun y4_ => y4_.elim (fun x5_ => Or.inr (Or.inr (Or.inr (Or.inr (Or.inr (Or.inl (x5_))))))) (fun y5_ => y5_.elim (fun x6_ => Or.inr (Or.inr (Or.inr (Or.inr (Or.inr (Or.inr (Or.inl (x6_)))))))) (fun y6_ => y6_.elim (fun x7_ => Or.inr (Or.inr (Or.inr (Or.inr (Or.inr (Or.inr (Or.inr (Or.inl (x7_))))))))) (fun y7_ => y7_.elim (fun x8_ => Or.inr (Or.inr (Or.inr (Or.inr (Or.inr (Or.inr (Or.inr (Or.inr (Or.inl (x8_)))))))))) (fun y8_ => y8_.elim (fun x9_ => Or.inr (Or.inr (Or.inr (Or.inr (Or.inr (Or.inr (Or.inr (Or.inr (Or.inr (Or.inl (x9_))))))))))) (fun y9_ => y9_.elim (fun x10_ => Or.inr (Or.inr (Or.inr (Or.inr (Or.inr (Or.inr (Or.inr (Or.inr (Or.inr (Or.inr (Or.inl (x10_)))))))))))) (fun y10_ => Or.inr (Or.inr (Or.inr (Or.inr (Or.inr (Or.inr (Or.inr (Or.inr (Or.inr (Or.inr (Or.inr (Or.inl (y10_))))))))))))))))))))))))), eσ762, dk_up_n (show ¬ (k_ = 162 ∧ j_ = i) from fun q_ => h_ (Or.inr (Or.inr (Or.inr (Or.inr (Or.inr (Or.inr (Or.inr (Or.inr (Or.inr (Or.inr (Or.inr (Or.inr (Or.inl (dk_wr (lo := 162) (hi := 163) q_.1 (by decide)))))))))))))))), hfσ752 k_ j_ (fun w_ => h_ (w_.elim (fun x0_ => Or.inr (Or.inr (Or.inl (x0_)))) (fun y0_ => y0_.elim (fun x1_ => Or.inr (Or.inr (Or.inr (Or.inl (x1_))))) (fun y1_ => y1_.elim (fun x2_ => Or.inr (Or.inr (Or.inr (Or.inr (Or.inl (x2_)))))) (fun y2_ => y2_.elim (fun x3_ => Or.inr (Or.inr (Or.inr (Or.inr (Or.inr (Or.inl (x3_))))))) (fun y3_ => Or.inr (Or.inr (Or.inr (Or.inr (Or.inr (Or.inr (Or.inl (y3_))))))))))))), hfσ742 k_ j_ (fun w_ => h_ (w_.elim (fun x0_ => Or.inl (x0_)) (fun y0_ => Or.inr (Or.inl (y0_)))))]), ⟨NX_tr hB.1 (gi791).1, RS_line (n := 2) hRS hc.symm (QX_qx hB hB2 gi791) (by omega) (fun j_ h_ => ⟨by rw [hfσ789 162 j_ (by omega), eσ783, dk_up_n (show ¬ (162 = 169 ∧ j_ = i) by omega), eσ778, dk_up_n (show ¬ (162 = 163 ∧ j_ = i) by omega), hfσ770 162 j_ (by omega), eσ762, dk_up_n (show ¬ (162 = 162 ∧ j_ = i) by omega), hfσ752 162 j_ (by omega), hfσ742 162 j_ (by omega)], by rw [hfσ789 163 j_ (by omega), eσ783, dk_up_n (show ¬ (163 = 169 ∧ j_ = i) by omega), eσ778, dk_up_n (show ¬ (163 = 163 ∧ j_ = i) by omega), hfσ770 163 j_ (by omega), eσ762, dk_up_n (show ¬ (163 = 162 ∧ j_ = i) by omega), hfσ752 163 j_ (by omega), hfσ742 163 j_ (by omega)], by rw [hfσ789 169 j_ (by omega), eσ783, dk_up_n (show ¬ (169 = 169 ∧ j_ = i) by omega), eσ778, dk_up_n (show ¬ (169 = 163 ∧ j_ = i) by omega), hfσ770 169 j_ (by omega), eσ762, dk_up_n (show ¬ (169 = 162 ∧ j_ = i) by omega), hfσ752 169 j_ (by omega), hfσ742 169 j_ (by omega)]⟩) (fun _ => ⟨by rw [← hi, hfσ789 162 i (by omega), eσ783, dk_up_n (show ¬ (162 = 169 ∧ i = i) by omega), eσ778, dk_up_n (show ¬ (162 = 163 ∧ i = i) by omega), hfσ770 162 i (by omega), eσ762, dk_up_s], by rw [← hi, hfσ789 163 i (by omega), eσ783, dk_up_n (show ¬ (163 = 169 ∧ i = i) by omega), eσ778, dk_up_s]; omega⟩), fun a_ q_ => Or.inr (by have x_ := (gi791).1.2.2.1; have t_ := hT.2.2 q_; have y_ := H85.2.2.1; omega)⟩⟩
              · skip
                have hz793 : σ783 141 3 = σ 141 3 := by rw [eσ783, dk_up_n (show ¬ (141 = 169 ∧ 3 = i) by omega), eσ778, dk_up_n (show ¬ (141 = 163 ∧ 3 = i) by omega), hfσ770 141 3 (by omega), eσ762, dk_up_n (show ¬ (141 = 162 ∧ 3 = i) by omega), hfσ752 141 3 (by omega), hfσ742 141 3 (by omega)]
                refine dk_cV (pc' := 173) (as := [(0, 0)]) hE lk_X11_301 (ct_X11_must l G hGd 0) dX11_readRule_170 rfl is_141 rfl (by decide) (Nat.le_of_ble_eq_true rfl) ⟨rfl, (NX_tk (gi784).1), (by omega)⟩ rfl (fun r795 σ794 hr795 hor795 => ?_)
                obtain ⟨rfl, hfσ794, hpr795⟩ := hr795
                have gi796 : QX c r σ752 σ794 := QX_tr gi784 hpr795 (fun k_ j_ h_ => hfσ794 k_ j_ (by omega))
                have hz797 : σ794 141 42 = v777 := by rw [hfσ794 141 42 (by omega), eσ783, dk_up_n (show ¬ (141 = 169 ∧ 42 = i) by omega), eσ778, dk_up_n (show ¬ (141 = 163 ∧ 42 = i) by omega), hv777]
                exact dk_vret (st := []) hE hR dX11_readRule_173 ⟨rfl, (fun k_ j_ h_ => by rw [hfσ794 k_ j_ (fun w_ => h_ (w_.elim (fun x0_ => Or.inl (x0_)) (fun y0_ => y0_.elim (fun x1_ => Or.inr (Or.inl (x1_))) (fun y1_ => y1_.elim (fun x2_ => Or.inr (Or.inr (Or.inl (x2_)))) (fun y2_ => y2_.elim (fun x3_ => Or.inr (Or.inr (Or.inr (Or.inl (x3_))))) (fun y3_ => y3_.elim (fun x4_ => Or.inr (Or.inr (Or.inr (Or.inr (Or.inl (x4_)))))) (fun y4_ => y4_.elim (fun x5_ => Or.inr (Or.inr (Or.inr (Or.inr (Or.inr (Or.inl (x5_))))))) (fun y5_ => Or.inr (Or.inr (Or.inr (Or.inr (Or.inr (Or.inr (Or.inl (y5_))))))))))))))), eσ783, dk_up_n (show ¬ (k_ = 169 ∧ j_ = i) from fun q_ => h_ (Or.inr (Or.inr (Or.inr (Or.inr (Or.inr (Or.inr (Or.inr (Or.inr (Or.inr (Or.inr (Or.inr (Or.inr (Or.inr (q_.1))))))))))))))), eσ778, dk_up_n (show ¬ (k_ = 163 ∧ j_ = i) from fun q_ => h_ (Or.inr (Or.inr (Or.inr (Or.inr (Or.inr (Or.inr (Or.inr (Or.inr (Or.inr (Or.inr (Or.inr (Or.inr (Or.inl (dk_wr (lo := 162) (hi := 163) q_.1 (by decide)))))))))))))))), hfσ770 k_ j_ (fun w_ => h_ (w_.elim (fun x0_ => Or.inl (x0_)) (fun y0_ => y0_.elim (fun x1_ => Or.inr (Or.inl (x1_))) (fun y1_ => y1_.elim (fun x2_ => Or.inr (Or.inr (Or.inl (x2_)))) (fun y2_ => y2_.elim (fun x3_ => Or.inr (Or.inr (Or.inr (Or.inl (x3_))))) (fun y3_ => y3_.elim (fun x4_ => Or.inr (Or.inr (Or.inr (Or.inr (Or.inl (x4_)))))) (fun y4_ => y4_.elim (fun x5_ => Or.inr (Or.inr (Or.inr (Or.inr (Or.inr (Or.inl (x5_))))))) (fun y5_ => y5_.elim (fun x6_ => Or.inr (Or.inr (Or.inr (Or.inr (Or.inr (Or.inr (Or.inl (x6_)))))))) (fun y6_ => y6_.elim (fun x7_ => Or.inr (Or.inr (Or.inr (Or.inr (Or.inr (Or.inr (Or.inr (Or.inl (x7_))))))))) (fun y7_ => y7_.elim (fun x8_ => Or.inr (Or.inr (Or.inr (Or.inr (Or.inr (Or.inr (Or.inr (Or.inr (Or.inl (x8_)))))))))) (fun y8_ => y8_.elim (fun x9_ => Or.inr (Or.inr (Or.inr (Or.inr (Or.inr (Or.inr (Or.inr (Or.inr (Or.inr (Or.inl (x9_))))))))))) (fun y9_ => y9_.elim (fun x10_ => Or.inr (Or.inr (Or.inr (Or.inr (Or.inr (Or.inr (Or.inr (Or.inr (Or.inr (Or.inr (Or.inl (x10_)))))))))))) (fun y10_ => Or.inr (Or.inr (Or.inr (Or.inr (Or.inr (Or.inr (Or.inr (Or.inr (Or.inr (Or.inr (Or.inr (Or.inl (y10_))))))))))))))))))))))))), eσ762, dk_up_n (show ¬ (k_ = 162 ∧ j_ = i) from fun q_ => h_ (Or.inr (Or.inr (Or.inr (Or.inr (Or.inr (Or.inr (Or.inr (Or.inr (Or.inr (Or.inr (Or.inr (Or.inr (Or.inl (dk_wr (lo := 162) (hi := 163) q_.1 (by decide)))))))))))))))), hfσ752 k_ j_ (fun w_ => h_ (w_.elim (fun x0_ => Or.inr (Or.inr (Or.inl (x0_)))) (fun y0_ => y0_.elim (fun x1_ => Or.inr (Or.inr (Or.inr (Or.inl (x1_))))) (fun y1_ => y1_.elim (fun x2_ => Or.inr (Or.inr (Or.inr (Or.inr (Or.inl (x2_)))))) (fun y2_ => y2_.elim (fun x3_ => Or.inr (Or.inr (Or.inr (Or.inr (Or.inr (Or.inl (x3_))))))) (fun y3_ => Or.inr (Or.inr (Or.inr (Or.inr (Or.inr (Or.inr (Or.inl (y3_))))))))))))), hfσ742 k_ j_ (fun w_ => h_ (w_.elim (fun x0_ => Or.inl (x0_)) (fun y0_ => Or.inr (Or.inl (y0_)))))]), ⟨NX_tr hB.1 (gi796).1, RS_line (n := 2) hRS hc.symm (QX_qx hB hB2 gi796) (by omega) (fun j_ h_ => ⟨by rw [hfσ794 162 j_ (by omega), eσ783, dk_up_n (show ¬ (162 = 169 ∧ j_ = i) by omega), eσ778, dk_up_n (show ¬ (162 = 163 ∧ j_ = i) by omega), hfσ770 162 j_ (by omega), eσ762, dk_up_n (show ¬ (162 = 162 ∧ j_ = i) by omega), hfσ752 162 j_ (by omega), hfσ742 162 j_ (by omega)], by rw [hfσ794 163 j_ (by omega), eσ783, dk_up_n (show ¬ (163 = 169 ∧ j_ = i) by omega), eσ778, dk_up_n (show ¬ (163 = 163 ∧ j_ = i) by omega), hfσ770 163 j_ (by omega), eσ762, dk_up_n (show ¬ (163 = 162 ∧ j_ = i) by omega), hfσ752 163 j_ (by omega), hfσ742 163 j_ (by omega)], by rw [hfσ794 169 j_ (by omega), eσ783, dk_up_n (show ¬ (169 = 169 ∧ j_ = i) by omega), eσ778, dk_up_n (show ¬ (169 = 163 ∧ j_ = i) by omega), hfσ770 169 j_ (by omega), eσ762, dk_up_n (show ¬ (169 = 162 ∧ j_ = i) by omega), hfσ752 169 j_ (by omega), hfσ742 169 j_ (by omega)]⟩) (fun _ => ⟨by rw [← hi, hfσ794 162 i (by omega), eσ783, dk_up_n (show ¬ (162 = 169 ∧ i = i) by omega), eσ778, dk_up_n (show ¬ (162 = 163 ∧ i = i) by omega), hfσ770 162 i (by omega), eσ762, dk_up_s], by rw [← hi, hfσ794 163 i (by omega), eσ783, dk_up_n (show ¬ (163 = 169 ∧ i = i) by omega), eσ778, dk_up_s]; omega⟩), fun a_ q_ => Or.inr (by have x_ := (gi796).1.2.2.1; have t_ := hT.2.2 q_; have y_ := H85.2.2.1; omega)⟩⟩
            · skip
              refine dk_if_eq (tgt := 132) (pc' := 128) hE dX11_readRule_125 (by decide) rfl (fun hc798 => ?_) (fun hc798 => absurd hc798 (by decide))
              refine dk_aload_n (pc' := 133) hE dX11_readRule_132 rfl rfl rfl ?_
              refine gf_11_34 (pc' := 136) (w := 163) hE fl_X11_80 dX11_readRule_133 is_141 rfl rfl ?_
              refine dk_iconst (pc' := 137) hE dX11_readRule_136 (by decide) rfl ?_
              refine dk_aload_n (pc' := 138) hE dX11_readRule_137 rfl rfl rfl ?_
              refine gf_11_41 (pc' := 141) hE fl_X11_374 dX11_readRule_138 is_141 rfl (fun v799 hv799 htv799 hbv799 => ?_)
              have hq799 : v658 = v799 := (show v799 = v658 by rw [hv799, eσ762, dk_up_n (show ¬ (141 = 162 ∧ 41 = i) by omega), hv758]).symm
              subst hq799
              clear htv799 hbv799
              obtain ⟨v800, hv800⟩ : ∃ z : Int, z = 3 * v658 := ⟨_, rfl⟩
              refine dk_imul (pc' := 142) hE dX11_readRule_141 hv800.symm (by omega) rfl ?_
              refine dk_iload_n (pc' := 143) hE dX11_readRule_142 rfl rfl rfl ?_
              obtain ⟨v801, hv801⟩ : ∃ z : Int, z = v800 + 2 := ⟨_, rfl⟩
              refine dk_iadd (pc' := 144) hE dX11_readRule_143 hv801.symm (by omega) rfl ?_
              have hrnv801 : i = v801 := by omega
              subst hrnv801
              refine dk_aload_n (pc' := 145) hE dX11_readRule_144 rfl rfl rfl ?_
              refine gf_11_42 (pc' := 148) hE fl_X11_377 dX11_readRule_145 is_141 rfl (fun v802 hv802 htv802 hbv802 => ?_)
              have hq802 : c = v802 := (show v802 = c by rw [hv802, eσ762, dk_up_n (show ¬ (141 = 162 ∧ 42 = i) by omega), hv761]).symm
              subst hq802
              clear htv802 hbv802
              refine pa_91 (pc' := 149) hE dX11_readRule_148 is_163 (by omega) trivial rfl (fun σ803 eσ803 => ?_)
              have gi804 : QX c r σ752 σ803 := QX_u gi763 (by omega) (by omega) eσ803
              refine dk_aload_n (pc' := 150) hE dX11_readRule_149 rfl rfl rfl ?_
              refine gf_11_40 (pc' := 153) (w := 169) hE fl_X11_98 dX11_readRule_150 is_141 rfl rfl ?_
              refine dk_iconst (pc' := 154) hE dX11_readRule_153 (by decide) rfl ?_
              refine dk_aload_n (pc' := 155) hE dX11_readRule_154 rfl rfl rfl ?_
              refine gf_11_41 (pc' := 158) hE fl_X11_374 dX11_readRule_155 is_141 rfl (fun v805 hv805 htv805 hbv805 => ?_)
              have hq805 : v658 = v805 := (show v805 = v658 by rw [hv805, eσ803, dk_up_n (show ¬ (141 = 163 ∧ 41 = i) by omega), hv799]).symm
              subst hq805
              clear htv805 hbv805
              obtain ⟨v806, hv806⟩ : ∃ z : Int, z = 3 * v658 := ⟨_, rfl⟩
              refine dk_imul (pc' := 159) hE dX11_readRule_158 hv806.symm (by omega) rfl ?_
              refine dk_iload_n (pc' := 160) hE dX11_readRule_159 rfl rfl rfl ?_
              obtain ⟨v807, hv807⟩ : ∃ z : Int, z = v806 + 2 := ⟨_, rfl⟩
              refine dk_iadd (pc' := 161) hE dX11_readRule_160 hv807.symm (by omega) rfl ?_
              have hrnv807 : i = v807 := by omega
              subst hrnv807
              refine dk_iconst (pc' := 162) hE dX11_readRule_161 (by decide) rfl ?_
              refine pa_97 (pc' := 163) hE dX11_readRule_162 is_169 (by omega) (by omega) trivial rfl (fun σ808 eσ808 => ?_)
              have gi809 : QX c r σ752 σ808 := QX_u gi804 (by omega) (by omega) eσ808
              refine dk_aload_n (pc' := 164) hE dX11_readRule_163 rfl rfl rfl ?_
              refine dk_aload_n (pc' := 165) hE dX11_readRule_164 rfl rfl rfl ?_
              refine dk_bipush (pc' := 167) hE dX11_readRule_165 (by decide) rfl ?_
              refine dk_cV (pc' := 170) (as := [(0, 59)]) hE lk_X11_298 (ct_X11_is l G hGd 59) dX11_readRule_167 rfl is_141 rfl (by decide) (Nat.le_of_ble_eq_true rfl) rfl rfl (fun r811 σ810 hr811 hor811 => ?_)
              obtain ⟨v812, rfl, hfσ810, hpr811⟩ := hr811
              have hsσ810 : σ808 = σ810 := (funext (fun k => funext (fun j => hfσ810 k j not_false))).symm
              subst hsσ810
              rcases hpr811 with ⟨rfl, hpr811⟩ | rfl
              · skip
                have hz813 : σ808 141 3 = σ 141 3 := by rw [eσ808, dk_up_n (show ¬ (141 = 169 ∧ 3 = i) by omega), eσ803, dk_up_n (show ¬ (141 = 163 ∧ 3 = i) by omega), eσ762, dk_up_n (show ¬ (141 = 162 ∧ 3 = i) by omega), hfσ752 141 3 (by omega), hfσ742 141 3 (by omega)]
                refine dk_cV (pc' := 173) (as := [(0, 1)]) hE lk_X11_301 (ct_X11_must l G hGd 1) dX11_readRule_170 rfl is_141 rfl (by decide) (Nat.le_of_ble_eq_true rfl) ⟨rfl, (NX_tk (gi809).1), (by omega)⟩ rfl (fun r815 σ814 hr815 hor815 => ?_)
                obtain ⟨rfl, hfσ814, hpr815⟩ := hr815
                have gi816 : QX c r σ752 σ814 := QX_tr gi809 hpr815 (fun k_ j_ h_ => hfσ814 k_ j_ (by omega))
                have hz817 : σ814 141 42 = c := by rw [hfσ814 141 42 (by omega), eσ808, dk_up_n (show ¬ (141 = 169 ∧ 42 = i) by omega), eσ803, dk_up_n (show ¬ (141 = 163 ∧ 42 = i) by omega), hv802]
                exact dk_vret (st := []) hE hR dX11_readRule_173 ⟨rfl, (fun k_ j_ h_ => by rw [hfσ814 k_ j_ (fun w_ => h_ (w_.elim (fun x0_ => Or.inl (x0_)) (fun y0_ => y0_.elim (fun x1_ => Or.inr (Or.inl (x1_))) (fun y1_ => y1_.elim (fun x2_ => Or.inr (Or.inr (Or.inl (x2_)))) (fun y2_ => y2_.elim (fun x3_ => Or.inr (Or.inr (Or.inr (Or.inl (x3_))))) (fun y3_ => y3_.elim (fun x4_ => Or.inr (Or.inr (Or.inr (Or.inr (Or.inl (x4_)))))) (fun y4_ => y4_.elim (fun x5_ => Or.inr (Or.inr (Or.inr (Or.inr (Or.inr (Or.inl (x5_))))))) (fun y5_ => Or.inr (Or.inr (Or.inr (Or.inr (Or.inr (Or.inr (Or.inl (y5_))))))))))))))), eσ808, dk_up_n (show ¬ (k_ = 169 ∧ j_ = i) from fun q_ => h_ (Or.inr (Or.inr (Or.inr (Or.inr (Or.inr (Or.inr (Or.inr (Or.inr (Or.inr (Or.inr (Or.inr (Or.inr (Or.inr (q_.1))))))))))))))), eσ803, dk_up_n (show ¬ (k_ = 163 ∧ j_ = i) from fun q_ => h_ (Or.inr (Or.inr (Or.inr (Or.inr (Or.inr (Or.inr (Or.inr (Or.inr (Or.inr (Or.inr (Or.inr (Or.inr (Or.inl (dk_wr (lo := 162) (hi := 163) q_.1 (by decide)))))))))))))))), eσ762, dk_up_n (show ¬ (k_ = 162 ∧ j_ = i) from fun q_ => h_ (Or.inr (Or.inr (Or.inr (Or.inr (Or.inr (Or.inr (Or.inr (Or.inr (Or.inr (Or.inr (Or.inr (Or.inr (Or.inl (dk_wr (lo := 162) (hi := 163) q_.1 (by decide)))))))))))))))), hfσ752 k_ j_ (fun w_ => h_ (w_.elim (fun x0_ => Or.inr (Or.inr (Or.inl (x0_)))) (fun y0_ => y0_.elim (fun x1_ => Or.inr (Or.inr (Or.inr (Or.inl (x1_))))) (fun y1_ => y1_.elim (fun x2_ => Or.inr (Or.inr (Or.inr (Or.inr (Or.inl (x2_)))))) (fun y2_ => y2_.elim (fun x3_ => Or.inr (Or.inr (Or.inr (Or.inr (Or.inr (Or.inl (x3_))))))) (fun y3_ => Or.inr (Or.inr (Or.inr (Or.inr (Or.inr (Or.inr (Or.inl (y3_))))))))))))), hfσ742 k_ j_ (fun w_ => h_ (w_.elim (fun x0_ => Or.inl (x0_)) (fun y0_ => Or.inr (Or.inl (y0_)))))]), ⟨NX_tr hB.1 (gi816).1, RS_line (n := 2) hRS hc.symm (QX_qx hB hB2 gi816) (by omega) (fun j_ h_ => ⟨by rw [hfσ814 162 j_ (by omega), eσ808, dk_up_n (show ¬ (162 = 169 ∧ j_ = i) by omega), eσ803, dk_up_n (show ¬ (162 = 163 ∧ j_ = i) by omega), eσ762, dk_up_n (show ¬ (162 = 162 ∧ j_ = i) by omega), hfσ752 162 j_ (by omega), hfσ742 162 j_ (by omega)], by rw [hfσ814 163 j_ (by omega), eσ808, dk_up_n (show ¬ (163 = 169 ∧ j_ = i) by omega), eσ803, dk_up_n (show ¬ (163 = 163 ∧ j_ = i) by omega), eσ762, dk_up_n (show ¬ (163 = 162 ∧ j_ = i) by omega), hfσ752 163 j_ (by omega), hfσ742 163 j_ (by omega)], by rw [hfσ814 169 j_ (by omega), eσ808, dk_up_n (show ¬ (169 = 169 ∧ j_ = i) by omega), eσ803, dk_up_n (show ¬ (169 = 163 ∧ j_ = i) by omega), eσ762, dk_up_n (show ¬ (169 = 162 ∧ j_ = i) by omega), hfσ752 169 j_ (by omega), hfσ742 169 j_ (by omega)]⟩) (fun _ => ⟨by rw [← hi, hfσ814 162 i (by omega), eσ808, dk_up_n (show ¬ (162 = 169 ∧ i = i) by omega), eσ803, dk_up_n (show ¬ (162 = 163 ∧ i = i) by omega), eσ762, dk_up_s], by rw [← hi, hfσ814 163 i (by omega), eσ808, dk_up_n (show ¬ (163 = 169 ∧ i = i) by omega), eσ803, dk_up_s]; omega⟩), fun a_ q_ => Or.inr (by have x_ := (gi816).1.2.2.1; have t_ := hT.2.2 q_; have y_ := H85.2.2.1; omega)⟩⟩
              · skip
                have hz818 : σ808 141 3 = σ 141 3 := by rw [eσ808, dk_up_n (show ¬ (141 = 169 ∧ 3 = i) by omega), eσ803, dk_up_n (show ¬ (141 = 163 ∧ 3 = i) by omega), eσ762, dk_up_n (show ¬ (141 = 162 ∧ 3 = i) by omega), hfσ752 141 3 (by omega), hfσ742 141 3 (by omega)]
                refine dk_cV (pc' := 173) (as := [(0, 0)]) hE lk_X11_301 (ct_X11_must l G hGd 0) dX11_readRule_170 rfl is_141 rfl (by decide) (Nat.le_of_ble_eq_true rfl) ⟨rfl, (NX_tk (gi809).1), (by omega)⟩ rfl (fun r820 σ819 hr820 hor820 => ?_)
                obtain ⟨rfl, hfσ819, hpr820⟩ := hr820
                have gi821 : QX c r σ752 σ819 := QX_tr gi809 hpr820 (fun k_ j_ h_ => hfσ819 k_ j_ (by omega))
                have hz822 : σ819 141 42 = c := by rw [hfσ819 141 42 (by omega), eσ808, dk_up_n (show ¬ (141 = 169 ∧ 42 = i) by omega), eσ803, dk_up_n (show ¬ (141 = 163 ∧ 42 = i) by omega), hv802]
                exact dk_vret (st := []) hE hR dX11_readRule_173 ⟨rfl, (fun k_ j_ h_ => by rw [hfσ819 k_ j_ (fun w_ => h_ (w_.elim (fun x0_ => Or.inl (x0_)) (fun y0_ => y0_.elim (fun x1_ => Or.inr (Or.inl (x1_))) (fun y1_ => y1_.elim (fun x2_ => Or.inr (Or.inr (Or.inl (x2_)))) (fun y2_ => y2_.elim (fun x3_ => Or.inr (Or.inr (Or.inr (Or.inl (x3_))))) (fun y3_ => y3_.elim (fun x4_ => Or.inr (Or.inr (Or.inr (Or.inr (Or.inl (x4_)))))) (fun y4_ => y4_.elim (fun x5_ => Or.inr (Or.inr (Or.inr (Or.inr (Or.inr (Or.inl (x5_))))))) (fun y5_ => Or.inr (Or.inr (Or.inr (Or.inr (Or.inr (Or.inr (Or.inl (y5_))))))))))))))), eσ808, dk_up_n (show ¬ (k_ = 169 ∧ j_ = i) from fun q_ => h_ (Or.inr (Or.inr (Or.inr (Or.inr (Or.inr (Or.inr (Or.inr (Or.inr (Or.inr (Or.inr (Or.inr (Or.inr (Or.inr (q_.1))))))))))))))), eσ803, dk_up_n (show ¬ (k_ = 163 ∧ j_ = i) from fun q_ => h_ (Or.inr (Or.inr (Or.inr (Or.inr (Or.inr (Or.inr (Or.inr (Or.inr (Or.inr (Or.inr (Or.inr (Or.inr (Or.inl (dk_wr (lo := 162) (hi := 163) q_.1 (by decide)))))))))))))))), eσ762, dk_up_n (show ¬ (k_ = 162 ∧ j_ = i) from fun q_ => h_ (Or.inr (Or.inr (Or.inr (Or.inr (Or.inr (Or.inr (Or.inr (Or.inr (Or.inr (Or.inr (Or.inr (Or.inr (Or.inl (dk_wr (lo := 162) (hi := 163) q_.1 (by decide)))))))))))))))), hfσ752 k_ j_ (fun w_ => h_ (w_.elim (fun x0_ => Or.inr (Or.inr (Or.inl (x0_)))) (fun y0_ => y0_.elim (fun x1_ => Or.inr (Or.inr (Or.inr (Or.inl (x1_))))) (fun y1_ => y1_.elim (fun x2_ => Or.inr (Or.inr (Or.inr (Or.inr (Or.inl (x2_)))))) (fun y2_ => y2_.elim (fun x3_ => Or.inr (Or.inr (Or.inr (Or.inr (Or.inr (Or.inl (x3_))))))) (fun y3_ => Or.inr (Or.inr (Or.inr (Or.inr (Or.inr (Or.inr (Or.inl (y3_))))))))))))), hfσ742 k_ j_ (fun w_ => h_ (w_.elim (fun x0_ => Or.inl (x0_)) (fun y0_ => Or.inr (Or.inl (y0_)))))]), ⟨NX_tr hB.1 (gi821).1, RS_line (n := 2) hRS hc.symm (QX_qx hB hB2 gi821) (by omega) (fun j_ h_ => ⟨by rw [hfσ819 162 j_ (by omega), eσ808, dk_up_n (show ¬ (162 = 169 ∧ j_ = i) by omega), eσ803, dk_up_n (show ¬ (162 = 163 ∧ j_ = i) by omega), eσ762, dk_up_n (show ¬ (162 = 162 ∧ j_ = i) by omega), hfσ752 162 j_ (by omega), hfσ742 162 j_ (by omega)], by rw [hfσ819 163 j_ (by omega), eσ808, dk_up_n (show ¬ (163 = 169 ∧ j_ = i) by omega), eσ803, dk_up_n (show ¬ (163 = 163 ∧ j_ = i) by omega), eσ762, dk_up_n (show ¬ (163 = 162 ∧ j_ = i) by omega), hfσ752 163 j_ (by omega), hfσ742 163 j_ (by omega)], by rw [hfσ819 169 j_ (by omega), eσ808, dk_up_n (show ¬ (169 = 169 ∧ j_ = i) by omega), eσ803, dk_up_n (show ¬ (169 = 163 ∧ j_ = i) by omega), eσ762, dk_up_n (show ¬ (169 = 162 ∧ j_ = i) by omega), hfσ752 169 j_ (by omega), hfσ742 169 j_ (by omega)]⟩) (fun _ => ⟨by rw [← hi, hfσ819 162 i (by omega), eσ808, dk_up_n (show ¬ (162 = 169 ∧ i = i) by omega), eσ803, dk_up_n (show ¬ (162 = 163 ∧ i = i) by omega), eσ762, dk_up_s], by rw [← hi, hfσ819 163 i (by omega), eσ808, dk_up_n (show ¬ (163 = 169 ∧ i = i) by omega), eσ803, dk_up_s]; omega⟩), fun a_ q_ => Or.inr (by have x_ := (gi821).1.2.2.1; have t_ := hT.2.2 q_; have y_ := H85.2.2.1; omega)⟩⟩
          · skip
            refine dk_if_ne (tgt := 84) (pc' := 83) hE dX11_readRule_80 (by decide) rfl (fun hc823 => absurd hc823 (by decide)) (fun hc823 => ?_)
            have hz824 : σ742 141 42 = c := by rw [hfσ742 141 42 (by omega), hc]
            exact dk_vret (st := []) hE hR dX11_readRule_83 ⟨rfl, (fun k_ j_ h_ => by rw [hfσ742 k_ j_ (fun w_ => h_ (w_.elim (fun x0_ => Or.inl (x0_)) (fun y0_ => Or.inr (Or.inl (y0_)))))]), ⟨(gi744).1, RS_fr hRS (gi744).1 (fun k_ j_ h_ => by rw [hfσ742 k_ j_ (by omega)]), fun a_ q_ => Or.inl (by omega)⟩⟩
      · skip
        refine dk_if_eq (tgt := 42) (pc' := 38) hE dX11_readRule_35 (by decide) rfl (fun hc825 => ?_) (fun hc825 => absurd hc825 (by decide))
        refine dk_iconst (pc' := 43) hE dX11_readRule_42 (by decide) rfl ?_
        refine dk_istore_n (pc' := 44) (ls' := [(4, 141), (0, (-1))]) hE dX11_readRule_43 rfl rfl (by decide) rfl ?_
        refine dk_iload_n (pc' := 45) hE dX11_readRule_44 rfl rfl rfl ?_
        refine dk_if_lt (tgt := 72) (pc' := 48) hE dX11_readRule_45 (by decide) rfl (fun hc826 => ?_) (fun hc826 => absurd hc826 (by decide))
        refine dk_aload_n (pc' := 73) hE dX11_readRule_72 rfl rfl rfl ?_
        refine dk_cV (pc' := 76) (as := []) hE lk_X11_257 (ct_X11_wrong l G hGd) dX11_readRule_73 rfl is_141 rfl (by decide) (Nat.le_of_ble_eq_true rfl) rfl rfl (fun r828 σ827 hr828 hor828 => ?_)
        obtain ⟨rfl, hfσ827, hpr828⟩ := hr828
        have gi829 : QX c r σ σ827 := QX_f (QX_of hT hRS.1 hc) hfσ827 hpr828
        refine dk_aload_n (pc' := 77) hE dX11_readRule_76 rfl rfl rfl ?_
        refine dk_cV (pc' := 80) (as := []) hE lk_X11_250 (ct_X11_isGood l G hGd) dX11_readRule_77 rfl is_141 rfl (by decide) (Nat.le_of_ble_eq_true rfl) rfl rfl (fun r831 σ830 hr831 hor831 => ?_)
        obtain ⟨v832, rfl, hfσ830, hpr831⟩ := hr831
        have hsσ830 : σ827 = σ830 := (funext (fun k => funext (fun j => hfσ830 k j not_false))).symm
        subst hsσ830
        rcases hpr831 with ⟨rfl, hpr831⟩ | ⟨rfl, hpr831⟩
        · skip
          refine dk_if_ne (tgt := 84) (pc' := 83) hE dX11_readRule_80 (by decide) rfl (fun hc833 => ?_) (fun hc833 => absurd hc833 (by decide))
          refine dk_aload_n (pc' := 85) hE dX11_readRule_84 rfl rfl rfl ?_
          have hz834 : σ827 141 7 = σ 141 7 := by rw [hfσ827 141 7 (by omega)]
          have hz835 : σ827 141 3 = σ 141 3 := by rw [hfσ827 141 3 (by omega)]
          have hz836 : σ827 141 3 = σ 141 3 := by rw [hfσ827 141 3 (by omega)]
          refine dk_cV (pc' := 88) (as := []) hE lk_X11_254 (ct_X11_next l G hGd) dX11_readRule_85 rfl is_141 rfl (by decide) (Nat.le_of_ble_eq_true rfl) ⟨rfl, ((NX_tk (gi829).1).2.1), (by omega)⟩ rfl (fun r838 σ837 hr838 hor838 => ?_)
          obtain ⟨rfl, hfσ837, hpr838⟩ := hr838
          have H85 := hpr838
          have gi839 : QX c r σ σ837 := QX_y gi829 hpr838 (fun k_ j_ h_ => hfσ837 k_ j_ (by omega))
          have hB : QX c r σ σ837 := gi839
          have hB2 : σ837 141 42 = c := by rw [hfσ837 141 42 (by omega), hfσ827 141 42 (by omega)]; exact hc.symm
          have gi840 : QX c r σ837 σ837 := QX_of (NX_tk hB.1) hB.2.1 hB2.symm
          refine dk_iload_n (pc' := 89) hE dX11_readRule_88 rfl rfl rfl ?_
          refine dk_iconst (pc' := 90) hE dX11_readRule_89 (by decide) rfl ?_
          refine dk_icmp_eq (tgt := 104) (pc' := 93) hE dX11_readRule_90 (by decide) rfl (fun hc841 => absurd hc841 (by decide)) (fun hc841 => ?_)
          refine dk_aload_n (pc' := 94) hE dX11_readRule_93 rfl rfl rfl ?_
          refine dk_aload_n (pc' := 95) hE dX11_readRule_94 rfl rfl rfl ?_
          refine dk_ldc2 (pc' := 98) hE dX11_readRule_95 cs_X11_188 (by decide) rfl ?_
          refine dk_cV (pc' := 101) (as := [(3, 2003330414)]) hE lk_X11_281 (ct_X11_isWord l G hGd 2003330414) dX11_readRule_98 rfl is_141 rfl (by decide) (Nat.le_of_ble_eq_true rfl) rfl rfl (fun r843 σ842 hr843 hor843 => ?_)
          obtain ⟨v844, rfl, hfσ842, hpr843⟩ := hr843
          have hsσ842 : σ837 = σ842 := (funext (fun k => funext (fun j => hfσ842 k j not_false))).symm
          subst hsσ842
          rcases hpr843 with ⟨rfl, hpr843⟩ | rfl
          · skip
            have hz845 : σ837 141 3 = σ 141 3 := by rw [hfσ837 141 3 (by omega), hfσ827 141 3 (by omega)]
            refine dk_cV (pc' := 104) (as := [(0, 1)]) hE lk_X11_301 (ct_X11_must l G hGd 1) dX11_readRule_101 rfl is_141 rfl (by decide) (Nat.le_of_ble_eq_true rfl) ⟨rfl, (NX_tk (gi840).1), (by omega)⟩ rfl (fun r847 σ846 hr847 hor847 => ?_)
            obtain ⟨rfl, hfσ846, hpr847⟩ := hr847
            have gi848 : QX c r σ837 σ846 := QX_tr gi840 hpr847 (fun k_ j_ h_ => hfσ846 k_ j_ (by omega))
            obtain ⟨i, hi⟩ : ∃ i : Int, i = 3 * r + (-1) := ⟨_, rfl⟩
            have gi849 : QX c r σ837 σ846 := gi848
            refine dk_aload_n (pc' := 105) hE dX11_readRule_104 rfl rfl rfl ?_
            refine gf_11_33 (pc' := 108) (w := 162) hE fl_X11_77 dX11_readRule_105 is_141 rfl rfl ?_
            refine dk_iconst (pc' := 109) hE dX11_readRule_108 (by decide) rfl ?_
            refine dk_aload_n (pc' := 110) hE dX11_readRule_109 rfl rfl rfl ?_
            refine gf_11_41 (pc' := 113) hE fl_X11_374 dX11_readRule_110 is_141 rfl (fun v850 hv850 htv850 hbv850 => ?_)
            have hq850 : v850 = σ 141 41 := by rw [hv850, hfσ846 141 41 (by omega), hfσ837 141 41 (by omega), hfσ827 141 41 (by omega)]
            obtain ⟨v851, hv851⟩ : ∃ z : Int, z = 3 * v850 := ⟨_, rfl⟩
            refine dk_imul (pc' := 114) hE dX11_readRule_113 hv851.symm (by omega) rfl ?_
            refine dk_iload_n (pc' := 115) hE dX11_readRule_114 rfl rfl rfl ?_
            obtain ⟨v852, hv852⟩ : ∃ z : Int, z = v851 + (-1) := ⟨_, rfl⟩
            refine dk_iadd (pc' := 116) hE dX11_readRule_115 hv852.symm (by omega) rfl ?_
            have hrnv852 : i = v852 := by omega
            subst hrnv852
            refine dk_aload_n (pc' := 117) hE dX11_readRule_116 rfl rfl rfl ?_
            refine gf_11_42 (pc' := 120) hE fl_X11_377 dX11_readRule_117 is_141 rfl (fun v853 hv853 htv853 hbv853 => ?_)
            have hq853 : c = v853 := (show v853 = c by rw [hv853, hfσ846 141 42 (by omega), hfσ837 141 42 (by omega), hfσ827 141 42 (by omega), hc]).symm
            subst hq853
            clear htv853 hbv853
            refine pa_90 (pc' := 121) hE dX11_readRule_120 is_162 (by omega) trivial rfl (fun σ854 eσ854 => ?_)
            have gi855 : QX c r σ837 σ854 := QX_u gi849 (by omega) (by omega) eσ854
            refine dk_aload_n (pc' := 122) hE dX11_readRule_121 rfl rfl rfl ?_
            refine dk_cV (pc' := 125) (as := []) hE lk_X11_250 (ct_X11_isGood l G hGd) dX11_readRule_122 rfl is_141 rfl (by decide) (Nat.le_of_ble_eq_true rfl) rfl rfl (fun r857 σ856 hr857 hor857 => ?_)
            obtain ⟨v858, rfl, hfσ856, hpr857⟩ := hr857
            have hsσ856 : σ854 = σ856 := (funext (fun k => funext (fun j => hfσ856 k j not_false))).symm
            subst hsσ856
            rcases hpr857 with ⟨rfl, hpr857⟩ | ⟨rfl, hpr857⟩
            · skip
              refine dk_if_eq (tgt := 132) (pc' := 128) hE dX11_readRule_125 (by decide) rfl (fun hc859 => absurd hc859 (by decide)) (fun hc859 => ?_)
              refine dk_aload_n (pc' := 129) hE dX11_readRule_128 rfl rfl rfl ?_
              have hz860 : σ854 141 3 = σ 141 3 := by rw [eσ854, dk_up_n (show ¬ (141 = 162 ∧ 3 = i) by omega), hfσ846 141 3 (by omega), hfσ837 141 3 (by omega), hfσ827 141 3 (by omega)]
              have hz861 : σ854 141 42 = c := by rw [eσ854, dk_up_n (show ¬ (141 = 162 ∧ 42 = i) by omega), hv853]
              refine dk_cV (pc' := 132) (as := []) hE lk_X11_386 (ct_X11_e l G hGd c r) dX11_readRule_129 rfl is_141 rfl (by decide) (Nat.le_of_ble_eq_true rfl) ⟨rfl, (NX_tk (gi855).1), (by omega), ((gi855).2.1), (by omega), (by omega)⟩ rfl (fun r863 σ862 hr863 hor863 => ?_)
              obtain ⟨rfl, hfσ862, hpr863⟩ := hr863
              have hz864 : σ854 141 42 = c := by rw [eσ854, dk_up_n (show ¬ (141 = 162 ∧ 42 = i) by omega), hv853]
              have gi865 : QX c r σ837 σ862 := QX_qx gi855 (by omega) hpr863
              refine dk_aload_n (pc' := 133) hE dX11_readRule_132 rfl rfl rfl ?_
              refine gf_11_34 (pc' := 136) (w := 163) hE fl_X11_80 dX11_readRule_133 is_141 rfl rfl ?_
              refine dk_iconst (pc' := 137) hE dX11_readRule_136 (by decide) rfl ?_
              refine dk_aload_n (pc' := 138) hE dX11_readRule_137 rfl rfl rfl ?_
              refine gf_11_41 (pc' := 141) hE fl_X11_374 dX11_readRule_138 is_141 rfl (fun v866 hv866 htv866 hbv866 => ?_)
              have hq866 : v850 = v866 := (show v866 = v850 by rw [hv866, hfσ862 141 41 (by omega), eσ854, dk_up_n (show ¬ (141 = 162 ∧ 41 = i) by omega), hv850]).symm
              subst hq866
              clear htv866 hbv866
              obtain ⟨v867, hv867⟩ : ∃ z : Int, z = 3 * v850 := ⟨_, rfl⟩
              refine dk_imul (pc' := 142) hE dX11_readRule_141 hv867.symm (by omega) rfl ?_
              refine dk_iload_n (pc' := 143) hE dX11_readRule_142 rfl rfl rfl ?_
              obtain ⟨v868, hv868⟩ : ∃ z : Int, z = v867 + (-1) := ⟨_, rfl⟩
              refine dk_iadd (pc' := 144) hE dX11_readRule_143 hv868.symm (by omega) rfl ?_
              have hrnv868 : i = v868 := by omega
              subst hrnv868
              refine dk_aload_n (pc' := 145) hE dX11_readRule_144 rfl rfl rfl ?_
              refine gf_11_42 (pc' := 148) hE fl_X11_377 dX11_readRule_145 is_141 rfl (fun v869 hv869 htv869 hbv869 => ?_)
              refine pa_91 (pc' := 149) hE dX11_readRule_148 is_163 (by omega) trivial rfl (fun σ870 eσ870 => ?_)
              have gi871 : QX c r σ837 σ870 := QX_u gi865 (by omega) (by omega) eσ870
              refine dk_aload_n (pc' := 150) hE dX11_readRule_149 rfl rfl rfl ?_
              refine gf_11_40 (pc' := 153) (w := 169) hE fl_X11_98 dX11_readRule_150 is_141 rfl rfl ?_
              refine dk_iconst (pc' := 154) hE dX11_readRule_153 (by decide) rfl ?_
              refine dk_aload_n (pc' := 155) hE dX11_readRule_154 rfl rfl rfl ?_
              refine gf_11_41 (pc' := 158) hE fl_X11_374 dX11_readRule_155 is_141 rfl (fun v872 hv872 htv872 hbv872 => ?_)
              have hq872 : v850 = v872 := (show v872 = v850 by rw [hv872, eσ870, dk_up_n (show ¬ (141 = 163 ∧ 41 = i) by omega), hv866]).symm
              subst hq872
              clear htv872 hbv872
              obtain ⟨v873, hv873⟩ : ∃ z : Int, z = 3 * v850 := ⟨_, rfl⟩
              refine dk_imul (pc' := 159) hE dX11_readRule_158 hv873.symm (by omega) rfl ?_
              refine dk_iload_n (pc' := 160) hE dX11_readRule_159 rfl rfl rfl ?_
              obtain ⟨v874, hv874⟩ : ∃ z : Int, z = v873 + (-1) := ⟨_, rfl⟩
              refine dk_iadd (pc' := 161) hE dX11_readRule_160 hv874.symm (by omega) rfl ?_
              have hrnv874 : i = v874 := by omega
              subst hrnv874
              refine dk_iconst (pc' := 162) hE dX11_readRule_161 (by decide) rfl ?_
              refine pa_97 (pc' := 163) hE dX11_readRule_162 is_169 (by omega) (by omega) trivial rfl (fun σ875 eσ875 => ?_)
              have gi876 : QX c r σ837 σ875 := QX_u gi871 (by omega) (by omega) eσ875
              refine dk_aload_n (pc' := 164) hE dX11_readRule_163 rfl rfl rfl ?_
              refine dk_aload_n (pc' := 165) hE dX11_readRule_164 rfl rfl rfl ?_
              refine dk_bipush (pc' := 167) hE dX11_readRule_165 (by decide) rfl ?_
              refine dk_cV (pc' := 170) (as := [(0, 59)]) hE lk_X11_298 (ct_X11_is l G hGd 59) dX11_readRule_167 rfl is_141 rfl (by decide) (Nat.le_of_ble_eq_true rfl) rfl rfl (fun r878 σ877 hr878 hor878 => ?_)
              obtain ⟨v879, rfl, hfσ877, hpr878⟩ := hr878
              have hsσ877 : σ875 = σ877 := (funext (fun k => funext (fun j => hfσ877 k j not_false))).symm
              subst hsσ877
              rcases hpr878 with ⟨rfl, hpr878⟩ | rfl
              · skip
                have hz880 : σ875 141 3 = σ 141 3 := by rw [eσ875, dk_up_n (show ¬ (141 = 169 ∧ 3 = i) by omega), eσ870, dk_up_n (show ¬ (141 = 163 ∧ 3 = i) by omega), hfσ862 141 3 (by omega), eσ854, dk_up_n (show ¬ (141 = 162 ∧ 3 = i) by omega), hfσ846 141 3 (by omega), hfσ837 141 3 (by omega), hfσ827 141 3 (by omega)]
                refine dk_cV (pc' := 173) (as := [(0, 1)]) hE lk_X11_301 (ct_X11_must l G hGd 1) dX11_readRule_170 rfl is_141 rfl (by decide) (Nat.le_of_ble_eq_true rfl) ⟨rfl, (NX_tk (gi876).1), (by omega)⟩ rfl (fun r882 σ881 hr882 hor882 => ?_)
                obtain ⟨rfl, hfσ881, hpr882⟩ := hr882
                have gi883 : QX c r σ837 σ881 := QX_tr gi876 hpr882 (fun k_ j_ h_ => hfσ881 k_ j_ (by omega))
                have hz884 : σ881 141 42 = v869 := by rw [hfσ881 141 42 (by omega), eσ875, dk_up_n (show ¬ (141 = 169 ∧ 42 = i) by omega), eσ870, dk_up_n (show ¬ (141 = 163 ∧ 42 = i) by omega), hv869]
                exact dk_vret (st := []) hE hR dX11_readRule_173 ⟨rfl, (fun k_ j_ h_ => by rw [hfσ881 k_ j_ (fun w_ => h_ (w_.elim (fun x0_ => Or.inl (x0_)) (fun y0_ => y0_.elim (fun x1_ => Or.inr (Or.inl (x1_))) (fun y1_ => y1_.elim (fun x2_ => Or.inr (Or.inr (Or.inl (x2_)))) (fun y2_ => y2_.elim (fun x3_ => Or.inr (Or.inr (Or.inr (Or.inl (x3_))))) (fun y3_ => y3_.elim (fun x4_ => Or.inr (Or.inr (Or.inr (Or.inr (Or.inl (x4_)))))) (fun y4_ => y4_.elim (fun x5_ => Or.inr (Or.inr (Or.inr (Or.inr (Or.inr (Or.inl (x5_))))))) (fun y5_ => Or.inr (Or.inr (Or.inr (Or.inr (Or.inr (Or.inr (Or.inl (y5_))))))))))))))), eσ875, dk_up_n (show ¬ (k_ = 169 ∧ j_ = i) from fun q_ => h_ (Or.inr (Or.inr (Or.inr (Or.inr (Or.inr (Or.inr (Or.inr (Or.inr (Or.inr (Or.inr (Or.inr (Or.inr (Or.inr (q_.1))))))))))))))), eσ870, dk_up_n (show ¬ (k_ = 163 ∧ j_ = i) from fun q_ => h_ (Or.inr (Or.inr (Or.inr (Or.inr (Or.inr (Or.inr (Or.inr (Or.inr (Or.inr (Or.inr (Or.inr (Or.inr (Or.inl (dk_wr (lo := 162) (hi := 163) q_.1 (by decide)))))))))))))))), hfσ862 k_ j_ (fun w_ => h_ (w_.elim (fun x0_ => Or.inl (x0_)) (fun y0_ => y0_.elim (fun x1_ => Or.inr (Or.inl (x1_))) (fun y1_ => y1_.elim (fun x2_ => Or.inr (Or.inr (Or.inl (x2_)))) (fun y2_ => y2_.elim (fun x3_ => Or.inr (Or.inr (Or.inr (Or.inl (x3_))))) (fun y3_ => y3_.elim (fun x4_ => Or.inr (Or.inr (Or.inr (Or.inr (Or.inl (x4_)))))) (fun y4_ => y4_.elim (fun x5_ => Or.inr (Or.inr (Or.inr (Or.inr (Or.inr (Or.inl (x5_))))))) (fun y5_ => y5_.elim (fun x6_ => Or.inr (Or.inr (Or.inr (Or.inr (Or.inr (Or.inr (Or.inl (x6_)))))))) (fun y6_ => y6_.elim (fun x7_ => Or.inr (Or.inr (Or.inr (Or.inr (Or.inr (Or.inr (Or.inr (Or.inl (x7_))))))))) (fun y7_ => y7_.elim (fun x8_ => Or.inr (Or.inr (Or.inr (Or.inr (Or.inr (Or.inr (Or.inr (Or.inr (Or.inl (x8_)))))))))) (fun y8_ => y8_.elim (fun x9_ => Or.inr (Or.inr (Or.inr (Or.inr (Or.inr (Or.inr (Or.inr (Or.inr (Or.inr (Or.inl (x9_))))))))))) (fun y9_ => y9_.elim (fun x10_ => Or.inr (Or.inr (Or.inr (Or.inr (Or.inr (Or.inr (Or.inr (Or.inr (Or.inr (Or.inr (Or.inl (x10_)))))))))))) (fun y10_ => Or.inr (Or.inr (Or.inr (Or.inr (Or.inr (Or.inr (Or.inr (Or.inr (Or.inr (Or.inr (Or.inr (Or.inl (y10_))))))))))))))))))))))))), eσ854, dk_up_n (show ¬ (k_ = 162 ∧ j_ = i) from fun q_ => h_ (Or.inr (Or.inr (Or.inr (Or.inr (Or.inr (Or.inr (Or.inr (Or.inr (Or.inr (Or.inr (Or.inr (Or.inr (Or.inl (dk_wr (lo := 162) (hi := 163) q_.1 (by decide)))))))))))))))), hfσ846 k_ j_ (fun w_ => h_ (w_.elim (fun x0_ => Or.inl (x0_)) (fun y0_ => y0_.elim (fun x1_ => Or.inr (Or.inl (x1_))) (fun y1_ => y1_.elim (fun x2_ => Or.inr (Or.inr (Or.inl (x2_)))) (fun y2_ => y2_.elim (fun x3_ => Or.inr (Or.inr (Or.inr (Or.inl (x3_))))) (fun y3_ => y3_.elim (fun x4_ => Or.inr (Or.inr (Or.inr (Or.inr (Or.inl (x4_)))))) (fun y4_ => y4_.elim (fun x5_ => Or.inr (Or.inr (Or.inr (Or.inr (Or.inr (Or.inl (x5_))))))) (fun y5_ => Or.inr (Or.inr (Or.inr (Or.inr (Or.inr (Or.inr (Or.inl (y5_))))))))))))))), hfσ837 k_ j_ (fun w_ => h_ (w_.elim (fun x0_ => Or.inr (Or.inr (Or.inl (x0_)))) (fun y0_ => y0_.elim (fun x1_ => Or.inr (Or.inr (Or.inr (Or.inl (x1_))))) (fun y1_ => y1_.elim (fun x2_ => Or.inr (Or.inr (Or.inr (Or.inr (Or.inl (x2_)))))) (fun y2_ => y2_.elim (fun x3_ => Or.inr (Or.inr (Or.inr (Or.inr (Or.inr (Or.inl (x3_))))))) (fun y3_ => Or.inr (Or.inr (Or.inr (Or.inr (Or.inr (Or.inr (Or.inl (y3_))))))))))))), hfσ827 k_ j_ (fun w_ => h_ (w_.elim (fun x0_ => Or.inl (x0_)) (fun y0_ => Or.inr (Or.inl (y0_)))))]), ⟨NX_tr hB.1 (gi883).1, RS_line (n := (-1)) hRS hc.symm (QX_qx hB hB2 gi883) (by omega) (fun j_ h_ => ⟨by rw [hfσ881 162 j_ (by omega), eσ875, dk_up_n (show ¬ (162 = 169 ∧ j_ = i) by omega), eσ870, dk_up_n (show ¬ (162 = 163 ∧ j_ = i) by omega), hfσ862 162 j_ (by omega), eσ854, dk_up_n (show ¬ (162 = 162 ∧ j_ = i) by omega), hfσ846 162 j_ (by omega), hfσ837 162 j_ (by omega), hfσ827 162 j_ (by omega)], by rw [hfσ881 163 j_ (by omega), eσ875, dk_up_n (show ¬ (163 = 169 ∧ j_ = i) by omega), eσ870, dk_up_n (show ¬ (163 = 163 ∧ j_ = i) by omega), hfσ862 163 j_ (by omega), eσ854, dk_up_n (show ¬ (163 = 162 ∧ j_ = i) by omega), hfσ846 163 j_ (by omega), hfσ837 163 j_ (by omega), hfσ827 163 j_ (by omega)], by rw [hfσ881 169 j_ (by omega), eσ875, dk_up_n (show ¬ (169 = 169 ∧ j_ = i) by omega), eσ870, dk_up_n (show ¬ (169 = 163 ∧ j_ = i) by omega), hfσ862 169 j_ (by omega), eσ854, dk_up_n (show ¬ (169 = 162 ∧ j_ = i) by omega), hfσ846 169 j_ (by omega), hfσ837 169 j_ (by omega), hfσ827 169 j_ (by omega)]⟩) (fun _ => ⟨by rw [← hi, hfσ881 162 i (by omega), eσ875, dk_up_n (show ¬ (162 = 169 ∧ i = i) by omega), eσ870, dk_up_n (show ¬ (162 = 163 ∧ i = i) by omega), hfσ862 162 i (by omega), eσ854, dk_up_s], by rw [← hi, hfσ881 163 i (by omega), eσ875, dk_up_n (show ¬ (163 = 169 ∧ i = i) by omega), eσ870, dk_up_s]; omega⟩), fun a_ q_ => Or.inr (by have x_ := (gi883).1.2.2.1; have t_ := hT.2.2 q_; have y_ := H85.2.2.1; omega)⟩⟩
              · skip
                have hz885 : σ875 141 3 = σ 141 3 := by rw [eσ875, dk_up_n (show ¬ (141 = 169 ∧ 3 = i) by omega), eσ870, dk_up_n (show ¬ (141 = 163 ∧ 3 = i) by omega), hfσ862 141 3 (by omega), eσ854, dk_up_n (show ¬ (141 = 162 ∧ 3 = i) by omega), hfσ846 141 3 (by omega), hfσ837 141 3 (by omega), hfσ827 141 3 (by omega)]
                refine dk_cV (pc' := 173) (as := [(0, 0)]) hE lk_X11_301 (ct_X11_must l G hGd 0) dX11_readRule_170 rfl is_141 rfl (by decide) (Nat.le_of_ble_eq_true rfl) ⟨rfl, (NX_tk (gi876).1), (by omega)⟩ rfl (fun r887 σ886 hr887 hor887 => ?_)
                obtain ⟨rfl, hfσ886, hpr887⟩ := hr887
                have gi888 : QX c r σ837 σ886 := QX_tr gi876 hpr887 (fun k_ j_ h_ => hfσ886 k_ j_ (by omega))
                have hz889 : σ886 141 42 = v869 := by rw [hfσ886 141 42 (by omega), eσ875, dk_up_n (show ¬ (141 = 169 ∧ 42 = i) by omega), eσ870, dk_up_n (show ¬ (141 = 163 ∧ 42 = i) by omega), hv869]
                exact dk_vret (st := []) hE hR dX11_readRule_173 ⟨rfl, (fun k_ j_ h_ => by rw [hfσ886 k_ j_ (fun w_ => h_ (w_.elim (fun x0_ => Or.inl (x0_)) (fun y0_ => y0_.elim (fun x1_ => Or.inr (Or.inl (x1_))) (fun y1_ => y1_.elim (fun x2_ => Or.inr (Or.inr (Or.inl (x2_)))) (fun y2_ => y2_.elim (fun x3_ => Or.inr (Or.inr (Or.inr (Or.inl (x3_))))) (fun y3_ => y3_.elim (fun x4_ => Or.inr (Or.inr (Or.inr (Or.inr (Or.inl (x4_)))))) (fun y4_ => y4_.elim (fun x5_ => Or.inr (Or.inr (Or.inr (Or.inr (Or.inr (Or.inl (x5_))))))) (fun y5_ => Or.inr (Or.inr (Or.inr (Or.inr (Or.inr (Or.inr (Or.inl (y5_))))))))))))))), eσ875, dk_up_n (show ¬ (k_ = 169 ∧ j_ = i) from fun q_ => h_ (Or.inr (Or.inr (Or.inr (Or.inr (Or.inr (Or.inr (Or.inr (Or.inr (Or.inr (Or.inr (Or.inr (Or.inr (Or.inr (q_.1))))))))))))))), eσ870, dk_up_n (show ¬ (k_ = 163 ∧ j_ = i) from fun q_ => h_ (Or.inr (Or.inr (Or.inr (Or.inr (Or.inr (Or.inr (Or.inr (Or.inr (Or.inr (Or.inr (Or.inr (Or.inr (Or.inl (dk_wr (lo := 162) (hi := 163) q_.1 (by decide)))))))))))))))), hfσ862 k_ j_ (fun w_ => h_ (w_.elim (fun x0_ => Or.inl (x0_)) (fun y0_ => y0_.elim (fun x1_ => Or.inr (Or.inl (x1_))) (fun y1_ => y1_.elim (fun x2_ => Or.inr (Or.inr (Or.inl (x2_)))) (fun y2_ => y2_.elim (fun x3_ => Or.inr (Or.inr (Or.inr (Or.inl (x3_))))) (fun y3_ => y3_.elim (fun x4_ => Or.inr (Or.inr (Or.inr (Or.inr (Or.inl (x4_)))))) (fun y4_ => y4_.elim (fun x5_ => Or.inr (Or.inr (Or.inr (Or.inr (Or.inr (Or.inl (x5_))))))) (fun y5_ => y5_.elim (fun x6_ => Or.inr (Or.inr (Or.inr (Or.inr (Or.inr (Or.inr (Or.inl (x6_)))))))) (fun y6_ => y6_.elim (fun x7_ => Or.inr (Or.inr (Or.inr (Or.inr (Or.inr (Or.inr (Or.inr (Or.inl (x7_))))))))) (fun y7_ => y7_.elim (fun x8_ => Or.inr (Or.inr (Or.inr (Or.inr (Or.inr (Or.inr (Or.inr (Or.inr (Or.inl (x8_)))))))))) (fun y8_ => y8_.elim (fun x9_ => Or.inr (Or.inr (Or.inr (Or.inr (Or.inr (Or.inr (Or.inr (Or.inr (Or.inr (Or.inl (x9_))))))))))) (fun y9_ => y9_.elim (fun x10_ => Or.inr (Or.inr (Or.inr (Or.inr (Or.inr (Or.inr (Or.inr (Or.inr (Or.inr (Or.inr (Or.inl (x10_)))))))))))) (fun y10_ => Or.inr (Or.inr (Or.inr (Or.inr (Or.inr (Or.inr (Or.inr (Or.inr (Or.inr (Or.inr (Or.inr (Or.inl (y10_))))))))))))))))))))))))), eσ854, dk_up_n (show ¬ (k_ = 162 ∧ j_ = i) from fun q_ => h_ (Or.inr (Or.inr (Or.inr (Or.inr (Or.inr (Or.inr (Or.inr (Or.inr (Or.inr (Or.inr (Or.inr (Or.inr (Or.inl (dk_wr (lo := 162) (hi := 163) q_.1 (by decide)))))))))))))))), hfσ846 k_ j_ (fun w_ => h_ (w_.elim (fun x0_ => Or.inl (x0_)) (fun y0_ => y0_.elim (fun x1_ => Or.inr (Or.inl (x1_))) (fun y1_ => y1_.elim (fun x2_ => Or.inr (Or.inr (Or.inl (x2_)))) (fun y2_ => y2_.elim (fun x3_ => Or.inr (Or.inr (Or.inr (Or.inl (x3_))))) (fun y3_ => y3_.elim (fun x4_ => Or.inr (Or.inr (Or.inr (Or.inr (Or.inl (x4_)))))) (fun y4_ => y4_.elim (fun x5_ => Or.inr (Or.inr (Or.inr (Or.inr (Or.inr (Or.inl (x5_))))))) (fun y5_ => Or.inr (Or.inr (Or.inr (Or.inr (Or.inr (Or.inr (Or.inl (y5_))))))))))))))), hfσ837 k_ j_ (fun w_ => h_ (w_.elim (fun x0_ => Or.inr (Or.inr (Or.inl (x0_)))) (fun y0_ => y0_.elim (fun x1_ => Or.inr (Or.inr (Or.inr (Or.inl (x1_))))) (fun y1_ => y1_.elim (fun x2_ => Or.inr (Or.inr (Or.inr (Or.inr (Or.inl (x2_)))))) (fun y2_ => y2_.elim (fun x3_ => Or.inr (Or.inr (Or.inr (Or.inr (Or.inr (Or.inl (x3_))))))) (fun y3_ => Or.inr (Or.inr (Or.inr (Or.inr (Or.inr (Or.inr (Or.inl (y3_))))))))))))), hfσ827 k_ j_ (fun w_ => h_ (w_.elim (fun x0_ => Or.inl (x0_)) (fun y0_ => Or.inr (Or.inl (y0_)))))]), ⟨NX_tr hB.1 (gi888).1, RS_line (n := (-1)) hRS hc.symm (QX_qx hB hB2 gi888) (by omega) (fun j_ h_ => ⟨by rw [hfσ886 162 j_ (by omega), eσ875, dk_up_n (show ¬ (162 = 169 ∧ j_ = i) by omega), eσ870, dk_up_n (show ¬ (162 = 163 ∧ j_ = i) by omega), hfσ862 162 j_ (by omega), eσ854, dk_up_n (show ¬ (162 = 162 ∧ j_ = i) by omega), hfσ846 162 j_ (by omega), hfσ837 162 j_ (by omega), hfσ827 162 j_ (by omega)], by rw [hfσ886 163 j_ (by omega), eσ875, dk_up_n (show ¬ (163 = 169 ∧ j_ = i) by omega), eσ870, dk_up_n (show ¬ (163 = 163 ∧ j_ = i) by omega), hfσ862 163 j_ (by omega), eσ854, dk_up_n (show ¬ (163 = 162 ∧ j_ = i) by omega), hfσ846 163 j_ (by omega), hfσ837 163 j_ (by omega), hfσ827 163 j_ (by omega)], by rw [hfσ886 169 j_ (by omega), eσ875, dk_up_n (show ¬ (169 = 169 ∧ j_ = i) by omega), eσ870, dk_up_n (show ¬ (169 = 163 ∧ j_ = i) by omega), hfσ862 169 j_ (by omega), eσ854, dk_up_n (show ¬ (169 = 162 ∧ j_ = i) by omega), hfσ846 169 j_ (by omega), hfσ837 169 j_ (by omega), hfσ827 169 j_ (by omega)]⟩) (fun _ => ⟨by rw [← hi, hfσ886 162 i (by omega), eσ875, dk_up_n (show ¬ (162 = 169 ∧ i = i) by omega), eσ870, dk_up_n (show ¬ (162 = 163 ∧ i = i) by omega), hfσ862 162 i (by omega), eσ854, dk_up_s], by rw [← hi, hfσ886 163 i (by omega), eσ875, dk_up_n (show ¬ (163 = 169 ∧ i = i) by omega), eσ870, dk_up_s]; omega⟩), fun a_ q_ => Or.inr (by have x_ := (gi888).1.2.2.1; have t_ := hT.2.2 q_; have y_ := H85.2.2.1; omega)⟩⟩
            · skip
              refine dk_if_eq (tgt := 132) (pc' := 128) hE dX11_readRule_125 (by decide) rfl (fun hc890 => ?_) (fun hc890 => absurd hc890 (by decide))
              refine dk_aload_n (pc' := 133) hE dX11_readRule_132 rfl rfl rfl ?_
              refine gf_11_34 (pc' := 136) (w := 163) hE fl_X11_80 dX11_readRule_133 is_141 rfl rfl ?_
              refine dk_iconst (pc' := 137) hE dX11_readRule_136 (by decide) rfl ?_
              refine dk_aload_n (pc' := 138) hE dX11_readRule_137 rfl rfl rfl ?_
              refine gf_11_41 (pc' := 141) hE fl_X11_374 dX11_readRule_138 is_141 rfl (fun v891 hv891 htv891 hbv891 => ?_)
              have hq891 : v850 = v891 := (show v891 = v850 by rw [hv891, eσ854, dk_up_n (show ¬ (141 = 162 ∧ 41 = i) by omega), hv850]).symm
              subst hq891
              clear htv891 hbv891
              obtain ⟨v892, hv892⟩ : ∃ z : Int, z = 3 * v850 := ⟨_, rfl⟩
              refine dk_imul (pc' := 142) hE dX11_readRule_141 hv892.symm (by omega) rfl ?_
              refine dk_iload_n (pc' := 143) hE dX11_readRule_142 rfl rfl rfl ?_
              obtain ⟨v893, hv893⟩ : ∃ z : Int, z = v892 + (-1) := ⟨_, rfl⟩
              refine dk_iadd (pc' := 144) hE dX11_readRule_143 hv893.symm (by omega) rfl ?_
              have hrnv893 : i = v893 := by omega
              subst hrnv893
              refine dk_aload_n (pc' := 145) hE dX11_readRule_144 rfl rfl rfl ?_
              refine gf_11_42 (pc' := 148) hE fl_X11_377 dX11_readRule_145 is_141 rfl (fun v894 hv894 htv894 hbv894 => ?_)
              have hq894 : c = v894 := (show v894 = c by rw [hv894, eσ854, dk_up_n (show ¬ (141 = 162 ∧ 42 = i) by omega), hv853]).symm
              subst hq894
              clear htv894 hbv894
              refine pa_91 (pc' := 149) hE dX11_readRule_148 is_163 (by omega) trivial rfl (fun σ895 eσ895 => ?_)
              have gi896 : QX c r σ837 σ895 := QX_u gi855 (by omega) (by omega) eσ895
              refine dk_aload_n (pc' := 150) hE dX11_readRule_149 rfl rfl rfl ?_
              refine gf_11_40 (pc' := 153) (w := 169) hE fl_X11_98 dX11_readRule_150 is_141 rfl rfl ?_
              refine dk_iconst (pc' := 154) hE dX11_readRule_153 (by decide) rfl ?_
              refine dk_aload_n (pc' := 155) hE dX11_readRule_154 rfl rfl rfl ?_
              refine gf_11_41 (pc' := 158) hE fl_X11_374 dX11_readRule_155 is_141 rfl (fun v897 hv897 htv897 hbv897 => ?_)
              have hq897 : v850 = v897 := (show v897 = v850 by rw [hv897, eσ895, dk_up_n (show ¬ (141 = 163 ∧ 41 = i) by omega), hv891]).symm
              subst hq897
              clear htv897 hbv897
              obtain ⟨v898, hv898⟩ : ∃ z : Int, z = 3 * v850 := ⟨_, rfl⟩
              refine dk_imul (pc' := 159) hE dX11_readRule_158 hv898.symm (by omega) rfl ?_
              refine dk_iload_n (pc' := 160) hE dX11_readRule_159 rfl rfl rfl ?_
              obtain ⟨v899, hv899⟩ : ∃ z : Int, z = v898 + (-1) := ⟨_, rfl⟩
              refine dk_iadd (pc' := 161) hE dX11_readRule_160 hv899.symm (by omega) rfl ?_
              have hrnv899 : i = v899 := by omega
              subst hrnv899
              refine dk_iconst (pc' := 162) hE dX11_readRule_161 (by decide) rfl ?_
              refine pa_97 (pc' := 163) hE dX11_readRule_162 is_169 (by omega) (by omega) trivial rfl (fun σ900 eσ900 => ?_)
              have gi901 : QX c r σ837 σ900 := QX_u gi896 (by omega) (by omega) eσ900
              refine dk_aload_n (pc' := 164) hE dX11_readRule_163 rfl rfl rfl ?_
              refine dk_aload_n (pc' := 165) hE dX11_readRule_164 rfl rfl rfl ?_
              refine dk_bipush (pc' := 167) hE dX11_readRule_165 (by decide) rfl ?_
              refine dk_cV (pc' := 170) (as := [(0, 59)]) hE lk_X11_298 (ct_X11_is l G hGd 59) dX11_readRule_167 rfl is_141 rfl (by decide) (Nat.le_of_ble_eq_true rfl) rfl rfl (fun r903 σ902 hr903 hor903 => ?_)
              obtain ⟨v904, rfl, hfσ902, hpr903⟩ := hr903
              have hsσ902 : σ900 = σ902 := (funext (fun k => funext (fun j => hfσ902 k j not_false))).symm
              subst hsσ902
              rcases hpr903 with ⟨rfl, hpr903⟩ | rfl
              · skip
                have hz905 : σ900 141 3 = σ 141 3 := by rw [eσ900, dk_up_n (show ¬ (141 = 169 ∧ 3 = i) by omega), eσ895, dk_up_n (show ¬ (141 = 163 ∧ 3 = i) by omega), eσ854, dk_up_n (show ¬ (141 = 162 ∧ 3 = i) by omega), hfσ846 141 3 (by omega), hfσ837 141 3 (by omega), hfσ827 141 3 (by omega)]
                refine dk_cV (pc' := 173) (as := [(0, 1)]) hE lk_X11_301 (ct_X11_must l G hGd 1) dX11_readRule_170 rfl is_141 rfl (by decide) (Nat.le_of_ble_eq_true rfl) ⟨rfl, (NX_tk (gi901).1), (by omega)⟩ rfl (fun r907 σ906 hr907 hor907 => ?_)
                obtain ⟨rfl, hfσ906, hpr907⟩ := hr907
                have gi908 : QX c r σ837 σ906 := QX_tr gi901 hpr907 (fun k_ j_ h_ => hfσ906 k_ j_ (by omega))
                have hz909 : σ906 141 42 = c := by rw [hfσ906 141 42 (by omega), eσ900, dk_up_n (show ¬ (141 = 169 ∧ 42 = i) by omega), eσ895, dk_up_n (show ¬ (141 = 163 ∧ 42 = i) by omega), hv894]
                exact dk_vret (st := []) hE hR dX11_readRule_173 ⟨rfl, (fun k_ j_ h_ => by rw [hfσ906 k_ j_ (fun w_ => h_ (w_.elim (fun x0_ => Or.inl (x0_)) (fun y0_ => y0_.elim (fun x1_ => Or.inr (Or.inl (x1_))) (fun y1_ => y1_.elim (fun x2_ => Or.inr (Or.inr (Or.inl (x2_)))) (fun y2_ => y2_.elim (fun x3_ => Or.inr (Or.inr (Or.inr (Or.inl (x3_))))) (fun y3_ => y3_.elim (fun x4_ => Or.inr (Or.inr (Or.inr (Or.inr (Or.inl (x4_)))))) (fun y4_ => y4_.elim (fun x5_ => Or.inr (Or.inr (Or.inr (Or.inr (Or.inr (Or.inl (x5_))))))) (fun y5_ => Or.inr (Or.inr (Or.inr (Or.inr (Or.inr (Or.inr (Or.inl (y5_))))))))))))))), eσ900, dk_up_n (show ¬ (k_ = 169 ∧ j_ = i) from fun q_ => h_ (Or.inr (Or.inr (Or.inr (Or.inr (Or.inr (Or.inr (Or.inr (Or.inr (Or.inr (Or.inr (Or.inr (Or.inr (Or.inr (q_.1))))))))))))))), eσ895, dk_up_n (show ¬ (k_ = 163 ∧ j_ = i) from fun q_ => h_ (Or.inr (Or.inr (Or.inr (Or.inr (Or.inr (Or.inr (Or.inr (Or.inr (Or.inr (Or.inr (Or.inr (Or.inr (Or.inl (dk_wr (lo := 162) (hi := 163) q_.1 (by decide)))))))))))))))), eσ854, dk_up_n (show ¬ (k_ = 162 ∧ j_ = i) from fun q_ => h_ (Or.inr (Or.inr (Or.inr (Or.inr (Or.inr (Or.inr (Or.inr (Or.inr (Or.inr (Or.inr (Or.inr (Or.inr (Or.inl (dk_wr (lo := 162) (hi := 163) q_.1 (by decide)))))))))))))))), hfσ846 k_ j_ (fun w_ => h_ (w_.elim (fun x0_ => Or.inl (x0_)) (fun y0_ => y0_.elim (fun x1_ => Or.inr (Or.inl (x1_))) (fun y1_ => y1_.elim (fun x2_ => Or.inr (Or.inr (Or.inl (x2_)))) (fun y2_ => y2_.elim (fun x3_ => Or.inr (Or.inr (Or.inr (Or.inl (x3_))))) (fun y3_ => y3_.elim (fun x4_ => Or.inr (Or.inr (Or.inr (Or.inr (Or.inl (x4_)))))) (fun y4_ => y4_.elim (fun x5_ => Or.inr (Or.inr (Or.inr (Or.inr (Or.inr (Or.inl (x5_))))))) (fun y5_ => Or.inr (Or.inr (Or.inr (Or.inr (Or.inr (Or.inr (Or.inl (y5_))))))))))))))), hfσ837 k_ j_ (fun w_ => h_ (w_.elim (fun x0_ => Or.inr (Or.inr (Or.inl (x0_)))) (fun y0_ => y0_.elim (fun x1_ => Or.inr (Or.inr (Or.inr (Or.inl (x1_))))) (fun y1_ => y1_.elim (fun x2_ => Or.inr (Or.inr (Or.inr (Or.inr (Or.inl (x2_)))))) (fun y2_ => y2_.elim (fun x3_ => Or.inr (Or.inr (Or.inr (Or.inr (Or.inr (Or.inl (x3_))))))) (fun y3_ => Or.inr (Or.inr (Or.inr (Or.inr (Or.inr (Or.inr (Or.inl (y3_))))))))))))), hfσ827 k_ j_ (fun w_ => h_ (w_.elim (fun x0_ => Or.inl (x0_)) (fun y0_ => Or.inr (Or.inl (y0_)))))]), ⟨NX_tr hB.1 (gi908).1, RS_line (n := (-1)) hRS hc.symm (QX_qx hB hB2 gi908) (by omega) (fun j_ h_ => ⟨by rw [hfσ906 162 j_ (by omega), eσ900, dk_up_n (show ¬ (162 = 169 ∧ j_ = i) by omega), eσ895, dk_up_n (show ¬ (162 = 163 ∧ j_ = i) by omega), eσ854, dk_up_n (show ¬ (162 = 162 ∧ j_ = i) by omega), hfσ846 162 j_ (by omega), hfσ837 162 j_ (by omega), hfσ827 162 j_ (by omega)], by rw [hfσ906 163 j_ (by omega), eσ900, dk_up_n (show ¬ (163 = 169 ∧ j_ = i) by omega), eσ895, dk_up_n (show ¬ (163 = 163 ∧ j_ = i) by omega), eσ854, dk_up_n (show ¬ (163 = 162 ∧ j_ = i) by omega), hfσ846 163 j_ (by omega), hfσ837 163 j_ (by omega), hfσ827 163 j_ (by omega)], by rw [hfσ906 169 j_ (by omega), eσ900, dk_up_n (show ¬ (169 = 169 ∧ j_ = i) by omega), eσ895, dk_up_n (show ¬ (169 = 163 ∧ j_ = i) by omega), eσ854, dk_up_n (show ¬ (169 = 162 ∧ j_ = i) by omega), hfσ846 169 j_ (by omega), hfσ837 169 j_ (by omega), hfσ827 169 j_ (by omega)]⟩) (fun _ => ⟨by rw [← hi, hfσ906 162 i (by omega), eσ900, dk_up_n (show ¬ (162 = 169 ∧ i = i) by omega), eσ895, dk_up_n (show ¬ (162 = 163 ∧ i = i) by omega), eσ854, dk_up_s], by rw [← hi, hfσ906 163 i (by omega), eσ900, dk_up_n (show ¬ (163 = 169 ∧ i = i) by omega), eσ895, dk_up_s]; omega⟩), fun a_ q_ => Or.inr (by have x_ := (gi908).1.2.2.1; have t_ := hT.2.2 q_; have y_ := H85.2.2.1; omega)⟩⟩
              · skip
                have hz910 : σ900 141 3 = σ 141 3 := by rw [eσ900, dk_up_n (show ¬ (141 = 169 ∧ 3 = i) by omega), eσ895, dk_up_n (show ¬ (141 = 163 ∧ 3 = i) by omega), eσ854, dk_up_n (show ¬ (141 = 162 ∧ 3 = i) by omega), hfσ846 141 3 (by omega), hfσ837 141 3 (by omega), hfσ827 141 3 (by omega)]
                refine dk_cV (pc' := 173) (as := [(0, 0)]) hE lk_X11_301 (ct_X11_must l G hGd 0) dX11_readRule_170 rfl is_141 rfl (by decide) (Nat.le_of_ble_eq_true rfl) ⟨rfl, (NX_tk (gi901).1), (by omega)⟩ rfl (fun r912 σ911 hr912 hor912 => ?_)
                obtain ⟨rfl, hfσ911, hpr912⟩ := hr912
                have gi913 : QX c r σ837 σ911 := QX_tr gi901 hpr912 (fun k_ j_ h_ => hfσ911 k_ j_ (by omega))
                have hz914 : σ911 141 42 = c := by rw [hfσ911 141 42 (by omega), eσ900, dk_up_n (show ¬ (141 = 169 ∧ 42 = i) by omega), eσ895, dk_up_n (show ¬ (141 = 163 ∧ 42 = i) by omega), hv894]
                exact dk_vret (st := []) hE hR dX11_readRule_173 ⟨rfl, (fun k_ j_ h_ => by rw [hfσ911 k_ j_ (fun w_ => h_ (w_.elim (fun x0_ => Or.inl (x0_)) (fun y0_ => y0_.elim (fun x1_ => Or.inr (Or.inl (x1_))) (fun y1_ => y1_.elim (fun x2_ => Or.inr (Or.inr (Or.inl (x2_)))) (fun y2_ => y2_.elim (fun x3_ => Or.inr (Or.inr (Or.inr (Or.inl (x3_))))) (fun y3_ => y3_.elim (fun x4_ => Or.inr (Or.inr (Or.inr (Or.inr (Or.inl (x4_)))))) (fun y4_ => y4_.elim (fun x5_ => Or.inr (Or.inr (Or.inr (Or.inr (Or.inr (Or.inl (x5_))))))) (fun y5_ => Or.inr (Or.inr (Or.inr (Or.inr (Or.inr (Or.inr (Or.inl (y5_))))))))))))))), eσ900, dk_up_n (show ¬ (k_ = 169 ∧ j_ = i) from fun q_ => h_ (Or.inr (Or.inr (Or.inr (Or.inr (Or.inr (Or.inr (Or.inr (Or.inr (Or.inr (Or.inr (Or.inr (Or.inr (Or.inr (q_.1))))))))))))))), eσ895, dk_up_n (show ¬ (k_ = 163 ∧ j_ = i) from fun q_ => h_ (Or.inr (Or.inr (Or.inr (Or.inr (Or.inr (Or.inr (Or.inr (Or.inr (Or.inr (Or.inr (Or.inr (Or.inr (Or.inl (dk_wr (lo := 162) (hi := 163) q_.1 (by decide)))))))))))))))), eσ854, dk_up_n (show ¬ (k_ = 162 ∧ j_ = i) from fun q_ => h_ (Or.inr (Or.inr (Or.inr (Or.inr (Or.inr (Or.inr (Or.inr (Or.inr (Or.inr (Or.inr (Or.inr (Or.inr (Or.inl (dk_wr (lo := 162) (hi := 163) q_.1 (by decide)))))))))))))))), hfσ846 k_ j_ (fun w_ => h_ (w_.elim (fun x0_ => Or.inl (x0_)) (fun y0_ => y0_.elim (fun x1_ => Or.inr (Or.inl (x1_))) (fun y1_ => y1_.elim (fun x2_ => Or.inr (Or.inr (Or.inl (x2_)))) (fun y2_ => y2_.elim (fun x3_ => Or.inr (Or.inr (Or.inr (Or.inl (x3_))))) (fun y3_ => y3_.elim (fun x4_ => Or.inr (Or.inr (Or.inr (Or.inr (Or.inl (x4_)))))) (fun y4_ => y4_.elim (fun x5_ => Or.inr (Or.inr (Or.inr (Or.inr (Or.inr (Or.inl (x5_))))))) (fun y5_ => Or.inr (Or.inr (Or.inr (Or.inr (Or.inr (Or.inr (Or.inl (y5_))))))))))))))), hfσ837 k_ j_ (fun w_ => h_ (w_.elim (fun x0_ => Or.inr (Or.inr (Or.inl (x0_)))) (fun y0_ => y0_.elim (fun x1_ => Or.inr (Or.inr (Or.inr (Or.inl (x1_))))) (fun y1_ => y1_.elim (fun x2_ => Or.inr (Or.inr (Or.inr (Or.inr (Or.inl (x2_)))))) (fun y2_ => y2_.elim (fun x3_ => Or.inr (Or.inr (Or.inr (Or.inr (Or.inr (Or.inl (x3_))))))) (fun y3_ => Or.inr (Or.inr (Or.inr (Or.inr (Or.inr (Or.inr (Or.inl (y3_))))))))))))), hfσ827 k_ j_ (fun w_ => h_ (w_.elim (fun x0_ => Or.inl (x0_)) (fun y0_ => Or.inr (Or.inl (y0_)))))]), ⟨NX_tr hB.1 (gi913).1, RS_line (n := (-1)) hRS hc.symm (QX_qx hB hB2 gi913) (by omega) (fun j_ h_ => ⟨by rw [hfσ911 162 j_ (by omega), eσ900, dk_up_n (show ¬ (162 = 169 ∧ j_ = i) by omega), eσ895, dk_up_n (show ¬ (162 = 163 ∧ j_ = i) by omega), eσ854, dk_up_n (show ¬ (162 = 162 ∧ j_ = i) by omega), hfσ846 162 j_ (by omega), hfσ837 162 j_ (by omega), hfσ827 162 j_ (by omega)], by rw [hfσ911 163 j_ (by omega), eσ900, dk_up_n (show ¬ (163 = 169 ∧ j_ = i) by omega), eσ895, dk_up_n (show ¬ (163 = 163 ∧ j_ = i) by omega), eσ854, dk_up_n (show ¬ (163 = 162 ∧ j_ = i) by omega), hfσ846 163 j_ (by omega), hfσ837 163 j_ (by omega), hfσ827 163 j_ (by omega)], by rw [hfσ911 169 j_ (by omega), eσ900, dk_up_n (show ¬ (169 = 169 ∧ j_ = i) by omega), eσ895, dk_up_n (show ¬ (169 = 163 ∧ j_ = i) by omega), eσ854, dk_up_n (show ¬ (169 = 162 ∧ j_ = i) by omega), hfσ846 169 j_ (by omega), hfσ837 169 j_ (by omega), hfσ827 169 j_ (by omega)]⟩) (fun _ => ⟨by rw [← hi, hfσ911 162 i (by omega), eσ900, dk_up_n (show ¬ (162 = 169 ∧ i = i) by omega), eσ895, dk_up_n (show ¬ (162 = 163 ∧ i = i) by omega), eσ854, dk_up_s], by rw [← hi, hfσ911 163 i (by omega), eσ900, dk_up_n (show ¬ (163 = 169 ∧ i = i) by omega), eσ895, dk_up_s]; omega⟩), fun a_ q_ => Or.inr (by have x_ := (gi913).1.2.2.1; have t_ := hT.2.2 q_; have y_ := H85.2.2.1; omega)⟩⟩
          · skip
            have hz915 : σ837 141 3 = σ 141 3 := by rw [hfσ837 141 3 (by omega), hfσ827 141 3 (by omega)]
            refine dk_cV (pc' := 104) (as := [(0, 0)]) hE lk_X11_301 (ct_X11_must l G hGd 0) dX11_readRule_101 rfl is_141 rfl (by decide) (Nat.le_of_ble_eq_true rfl) ⟨rfl, (NX_tk (gi840).1), (by omega)⟩ rfl (fun r917 σ916 hr917 hor917 => ?_)
            obtain ⟨rfl, hfσ916, hpr917⟩ := hr917
            have gi918 : QX c r σ837 σ916 := QX_tr gi840 hpr917 (fun k_ j_ h_ => hfσ916 k_ j_ (by omega))
            obtain ⟨i, hi⟩ : ∃ i : Int, i = 3 * r + (-1) := ⟨_, rfl⟩
            have gi919 : QX c r σ837 σ916 := gi918
            refine dk_aload_n (pc' := 105) hE dX11_readRule_104 rfl rfl rfl ?_
            refine gf_11_33 (pc' := 108) (w := 162) hE fl_X11_77 dX11_readRule_105 is_141 rfl rfl ?_
            refine dk_iconst (pc' := 109) hE dX11_readRule_108 (by decide) rfl ?_
            refine dk_aload_n (pc' := 110) hE dX11_readRule_109 rfl rfl rfl ?_
            refine gf_11_41 (pc' := 113) hE fl_X11_374 dX11_readRule_110 is_141 rfl (fun v920 hv920 htv920 hbv920 => ?_)
            have hq920 : v920 = σ 141 41 := by rw [hv920, hfσ916 141 41 (by omega), hfσ837 141 41 (by omega), hfσ827 141 41 (by omega)]
            obtain ⟨v921, hv921⟩ : ∃ z : Int, z = 3 * v920 := ⟨_, rfl⟩
            refine dk_imul (pc' := 114) hE dX11_readRule_113 hv921.symm (by omega) rfl ?_
            refine dk_iload_n (pc' := 115) hE dX11_readRule_114 rfl rfl rfl ?_
            obtain ⟨v922, hv922⟩ : ∃ z : Int, z = v921 + (-1) := ⟨_, rfl⟩
            refine dk_iadd (pc' := 116) hE dX11_readRule_115 hv922.symm (by omega) rfl ?_
            have hrnv922 : i = v922 := by omega
            subst hrnv922
            refine dk_aload_n (pc' := 117) hE dX11_readRule_116 rfl rfl rfl ?_
            refine gf_11_42 (pc' := 120) hE fl_X11_377 dX11_readRule_117 is_141 rfl (fun v923 hv923 htv923 hbv923 => ?_)
            have hq923 : c = v923 := (show v923 = c by rw [hv923, hfσ916 141 42 (by omega), hfσ837 141 42 (by omega), hfσ827 141 42 (by omega), hc]).symm
            subst hq923
            clear htv923 hbv923
            refine pa_90 (pc' := 121) hE dX11_readRule_120 is_162 (by omega) trivial rfl (fun σ924 eσ924 => ?_)
            have gi925 : QX c r σ837 σ924 := QX_u gi919 (by omega) (by omega) eσ924
            refine dk_aload_n (pc' := 122) hE dX11_readRule_121 rfl rfl rfl ?_
            refine dk_cV (pc' := 125) (as := []) hE lk_X11_250 (ct_X11_isGood l G hGd) dX11_readRule_122 rfl is_141 rfl (by decide) (Nat.le_of_ble_eq_true rfl) rfl rfl (fun r927 σ926 hr927 hor927 => ?_)
            obtain ⟨v928, rfl, hfσ926, hpr927⟩ := hr927
            have hsσ926 : σ924 = σ926 := (funext (fun k => funext (fun j => hfσ926 k j not_false))).symm
            subst hsσ926
            rcases hpr927 with ⟨rfl, hpr927⟩ | ⟨rfl, hpr927⟩
            · skip
              refine dk_if_eq (tgt := 132) (pc' := 128) hE dX11_readRule_125 (by decide) rfl (fun hc929 => absurd hc929 (by decide)) (fun hc929 => ?_)
              refine dk_aload_n (pc' := 129) hE dX11_readRule_128 rfl rfl rfl ?_
              have hz930 : σ924 141 3 = σ 141 3 := by rw [eσ924, dk_up_n (show ¬ (141 = 162 ∧ 3 = i) by omega), hfσ916 141 3 (by omega), hfσ837 141 3 (by omega), hfσ827 141 3 (by omega)]
              have hz931 : σ924 141 42 = c := by rw [eσ924, dk_up_n (show ¬ (141 = 162 ∧ 42 = i) by omega), hv923]
              refine dk_cV (pc' := 132) (as := []) hE lk_X11_386 (ct_X11_e l G hGd c r) dX11_readRule_129 rfl is_141 rfl (by decide) (Nat.le_of_ble_eq_true rfl) ⟨rfl, (NX_tk (gi925).1), (by omega), ((gi925).2.1), (by omega), (by omega)⟩ rfl (fun r933 σ932 hr933 hor933 => ?_)
              obtain ⟨rfl, hfσ932, hpr933⟩ := hr933
              have hz934 : σ924 141 42 = c := by rw [eσ924, dk_up_n (show ¬ (141 = 162 ∧ 42 = i) by omega), hv923]
              have gi935 : QX c r σ837 σ932 := QX_qx gi925 (by omega) hpr933
              refine dk_aload_n (pc' := 133) hE dX11_readRule_132 rfl rfl rfl ?_
              refine gf_11_34 (pc' := 136) (w := 163) hE fl_X11_80 dX11_readRule_133 is_141 rfl rfl ?_
              refine dk_iconst (pc' := 137) hE dX11_readRule_136 (by decide) rfl ?_
              refine dk_aload_n (pc' := 138) hE dX11_readRule_137 rfl rfl rfl ?_
              refine gf_11_41 (pc' := 141) hE fl_X11_374 dX11_readRule_138 is_141 rfl (fun v936 hv936 htv936 hbv936 => ?_)
              have hq936 : v920 = v936 := (show v936 = v920 by rw [hv936, hfσ932 141 41 (by omega), eσ924, dk_up_n (show ¬ (141 = 162 ∧ 41 = i) by omega), hv920]).symm
              subst hq936
              clear htv936 hbv936
              obtain ⟨v937, hv937⟩ : ∃ z : Int, z = 3 * v920 := ⟨_, rfl⟩
              refine dk_imul (pc' := 142) hE dX11_readRule_141 hv937.symm (by omega) rfl ?_
              refine dk_iload_n (pc' := 143) hE dX11_readRule_142 rfl rfl rfl ?_
              obtain ⟨v938, hv938⟩ : ∃ z : Int, z = v937 + (-1) := ⟨_, rfl⟩
              refine dk_iadd (pc' := 144) hE dX11_readRule_143 hv938.symm (by omega) rfl ?_
              have hrnv938 : i = v938 := by omega
              subst hrnv938
              refine dk_aload_n (pc' := 145) hE dX11_readRule_144 rfl rfl rfl ?_
              refine gf_11_42 (pc' := 148) hE fl_X11_377 dX11_readRule_145 is_141 rfl (fun v939 hv939 htv939 hbv939 => ?_)
              refine pa_91 (pc' := 149) hE dX11_readRule_148 is_163 (by omega) trivial rfl (fun σ940 eσ940 => ?_)
              have gi941 : QX c r σ837 σ940 := QX_u gi935 (by omega) (by omega) eσ940
              refine dk_aload_n (pc' := 150) hE dX11_readRule_149 rfl rfl rfl ?_
              refine gf_11_40 (pc' := 153) (w := 169) hE fl_X11_98 dX11_readRule_150 is_141 rfl rfl ?_
              refine dk_iconst (pc' := 154) hE dX11_readRule_153 (by decide) rfl ?_
              refine dk_aload_n (pc' := 155) hE dX11_readRule_154 rfl rfl rfl ?_
              refine gf_11_41 (pc' := 158) hE fl_X11_374 dX11_readRule_155 is_141 rfl (fun v942 hv942 htv942 hbv942 => ?_)
              have hq942 : v920 = v942 := (show v942 = v920 by rw [hv942, eσ940, dk_up_n (show ¬ (141 = 163 ∧ 41 = i) by omega), hv936]).symm
              subst hq942
              clear htv942 hbv942
              obtain ⟨v943, hv943⟩ : ∃ z : Int, z = 3 * v920 := ⟨_, rfl⟩
              refine dk_imul (pc' := 159) hE dX11_readRule_158 hv943.symm (by omega) rfl ?_
              refine dk_iload_n (pc' := 160) hE dX11_readRule_159 rfl rfl rfl ?_
              obtain ⟨v944, hv944⟩ : ∃ z : Int, z = v943 + (-1) := ⟨_, rfl⟩
              refine dk_iadd (pc' := 161) hE dX11_readRule_160 hv944.symm (by omega) rfl ?_
              have hrnv944 : i = v944 := by omega
              subst hrnv944
              refine dk_iconst (pc' := 162) hE dX11_readRule_161 (by decide) rfl ?_
              refine pa_97 (pc' := 163) hE dX11_readRule_162 is_169 (by omega) (by omega) trivial rfl (fun σ945 eσ945 => ?_)
              have gi946 : QX c r σ837 σ945 := QX_u gi941 (by omega) (by omega) eσ945
              refine dk_aload_n (pc' := 164) hE dX11_readRule_163 rfl rfl rfl ?_
              refine dk_aload_n (pc' := 165) hE dX11_readRule_164 rfl rfl rfl ?_
              refine dk_bipush (pc' := 167) hE dX11_readRule_165 (by decide) rfl ?_
              refine dk_cV (pc' := 170) (as := [(0, 59)]) hE lk_X11_298 (ct_X11_is l G hGd 59) dX11_readRule_167 rfl is_141 rfl (by decide) (Nat.le_of_ble_eq_true rfl) rfl rfl (fun r948 σ947 hr948 hor948 => ?_)
              obtain ⟨v949, rfl, hfσ947, hpr948⟩ := hr948
              have hsσ947 : σ945 = σ947 := (funext (fun k => funext (fun j => hfσ947 k j not_false))).symm
              subst hsσ947
              rcases hpr948 with ⟨rfl, hpr948⟩ | rfl
              · skip
                have hz950 : σ945 141 3 = σ 141 3 := by rw [eσ945, dk_up_n (show ¬ (141 = 169 ∧ 3 = i) by omega), eσ940, dk_up_n (show ¬ (141 = 163 ∧ 3 = i) by omega), hfσ932 141 3 (by omega), eσ924, dk_up_n (show ¬ (141 = 162 ∧ 3 = i) by omega), hfσ916 141 3 (by omega), hfσ837 141 3 (by omega), hfσ827 141 3 (by omega)]
                refine dk_cV (pc' := 173) (as := [(0, 1)]) hE lk_X11_301 (ct_X11_must l G hGd 1) dX11_readRule_170 rfl is_141 rfl (by decide) (Nat.le_of_ble_eq_true rfl) ⟨rfl, (NX_tk (gi946).1), (by omega)⟩ rfl (fun r952 σ951 hr952 hor952 => ?_)
                obtain ⟨rfl, hfσ951, hpr952⟩ := hr952
                have gi953 : QX c r σ837 σ951 := QX_tr gi946 hpr952 (fun k_ j_ h_ => hfσ951 k_ j_ (by omega))
                have hz954 : σ951 141 42 = v939 := by rw [hfσ951 141 42 (by omega), eσ945, dk_up_n (show ¬ (141 = 169 ∧ 42 = i) by omega), eσ940, dk_up_n (show ¬ (141 = 163 ∧ 42 = i) by omega), hv939]
                exact dk_vret (st := []) hE hR dX11_readRule_173 ⟨rfl, (fun k_ j_ h_ => by rw [hfσ951 k_ j_ (fun w_ => h_ (w_.elim (fun x0_ => Or.inl (x0_)) (fun y0_ => y0_.elim (fun x1_ => Or.inr (Or.inl (x1_))) (fun y1_ => y1_.elim (fun x2_ => Or.inr (Or.inr (Or.inl (x2_)))) (fun y2_ => y2_.elim (fun x3_ => Or.inr (Or.inr (Or.inr (Or.inl (x3_))))) (fun y3_ => y3_.elim (fun x4_ => Or.inr (Or.inr (Or.inr (Or.inr (Or.inl (x4_)))))) (fun y4_ => y4_.elim (fun x5_ => Or.inr (Or.inr (Or.inr (Or.inr (Or.inr (Or.inl (x5_))))))) (fun y5_ => Or.inr (Or.inr (Or.inr (Or.inr (Or.inr (Or.inr (Or.inl (y5_))))))))))))))), eσ945, dk_up_n (show ¬ (k_ = 169 ∧ j_ = i) from fun q_ => h_ (Or.inr (Or.inr (Or.inr (Or.inr (Or.inr (Or.inr (Or.inr (Or.inr (Or.inr (Or.inr (Or.inr (Or.inr (Or.inr (q_.1))))))))))))))), eσ940, dk_up_n (show ¬ (k_ = 163 ∧ j_ = i) from fun q_ => h_ (Or.inr (Or.inr (Or.inr (Or.inr (Or.inr (Or.inr (Or.inr (Or.inr (Or.inr (Or.inr (Or.inr (Or.inr (Or.inl (dk_wr (lo := 162) (hi := 163) q_.1 (by decide)))))))))))))))), hfσ932 k_ j_ (fun w_ => h_ (w_.elim (fun x0_ => Or.inl (x0_)) (fun y0_ => y0_.elim (fun x1_ => Or.inr (Or.inl (x1_))) (fun y1_ => y1_.elim (fun x2_ => Or.inr (Or.inr (Or.inl (x2_)))) (fun y2_ => y2_.elim (fun x3_ => Or.inr (Or.inr (Or.inr (Or.inl (x3_))))) (fun y3_ => y3_.elim (fun x4_ => Or.inr (Or.inr (Or.inr (Or.inr (Or.inl (x4_)))))) (fun y4_ => y4_.elim (fun x5_ => Or.inr (Or.inr (Or.inr (Or.inr (Or.inr (Or.inl (x5_))))))) (fun y5_ => y5_.elim (fun x6_ => Or.inr (Or.inr (Or.inr (Or.inr (Or.inr (Or.inr (Or.inl (x6_)))))))) (fun y6_ => y6_.elim (fun x7_ => Or.inr (Or.inr (Or.inr (Or.inr (Or.inr (Or.inr (Or.inr (Or.inl (x7_))))))))) (fun y7_ => y7_.elim (fun x8_ => Or.inr (Or.inr (Or.inr (Or.inr (Or.inr (Or.inr (Or.inr (Or.inr (Or.inl (x8_)))))))))) (fun y8_ => y8_.elim (fun x9_ => Or.inr (Or.inr (Or.inr (Or.inr (Or.inr (Or.inr (Or.inr (Or.inr (Or.inr (Or.inl (x9_))))))))))) (fun y9_ => y9_.elim (fun x10_ => Or.inr (Or.inr (Or.inr (Or.inr (Or.inr (Or.inr (Or.inr (Or.inr (Or.inr (Or.inr (Or.inl (x10_)))))))))))) (fun y10_ => Or.inr (Or.inr (Or.inr (Or.inr (Or.inr (Or.inr (Or.inr (Or.inr (Or.inr (Or.inr (Or.inr (Or.inl (y10_))))))))))))))))))))))))), eσ924, dk_up_n (show ¬ (k_ = 162 ∧ j_ = i) from fun q_ => h_ (Or.inr (Or.inr (Or.inr (Or.inr (Or.inr (Or.inr (Or.inr (Or.inr (Or.inr (Or.inr (Or.inr (Or.inr (Or.inl (dk_wr (lo := 162) (hi := 163) q_.1 (by decide)))))))))))))))), hfσ916 k_ j_ (fun w_ => h_ (w_.elim (fun x0_ => Or.inl (x0_)) (fun y0_ => y0_.elim (fun x1_ => Or.inr (Or.inl (x1_))) (fun y1_ => y1_.elim (fun x2_ => Or.inr (Or.inr (Or.inl (x2_)))) (fun y2_ => y2_.elim (fun x3_ => Or.inr (Or.inr (Or.inr (Or.inl (x3_))))) (fun y3_ => y3_.elim (fun x4_ => Or.inr (Or.inr (Or.inr (Or.inr (Or.inl (x4_)))))) (fun y4_ => y4_.elim (fun x5_ => Or.inr (Or.inr (Or.inr (Or.inr (Or.inr (Or.inl (x5_))))))) (fun y5_ => Or.inr (Or.inr (Or.inr (Or.inr (Or.inr (Or.inr (Or.inl (y5_))))))))))))))), hfσ837 k_ j_ (fun w_ => h_ (w_.elim (fun x0_ => Or.inr (Or.inr (Or.inl (x0_)))) (fun y0_ => y0_.elim (fun x1_ => Or.inr (Or.inr (Or.inr (Or.inl (x1_))))) (fun y1_ => y1_.elim (fun x2_ => Or.inr (Or.inr (Or.inr (Or.inr (Or.inl (x2_)))))) (fun y2_ => y2_.elim (fun x3_ => Or.inr (Or.inr (Or.inr (Or.inr (Or.inr (Or.inl (x3_))))))) (fun y3_ => Or.inr (Or.inr (Or.inr (Or.inr (Or.inr (Or.inr (Or.inl (y3_))))))))))))), hfσ827 k_ j_ (fun w_ => h_ (w_.elim (fun x0_ => Or.inl (x0_)) (fun y0_ => Or.inr (Or.inl (y0_)))))]), ⟨NX_tr hB.1 (gi953).1, RS_line (n := (-1)) hRS hc.symm (QX_qx hB hB2 gi953) (by omega) (fun j_ h_ => ⟨by rw [hfσ951 162 j_ (by omega), eσ945, dk_up_n (show ¬ (162 = 169 ∧ j_ = i) by omega), eσ940, dk_up_n (show ¬ (162 = 163 ∧ j_ = i) by omega), hfσ932 162 j_ (by omega), eσ924, dk_up_n (show ¬ (162 = 162 ∧ j_ = i) by omega), hfσ916 162 j_ (by omega), hfσ837 162 j_ (by omega), hfσ827 162 j_ (by omega)], by rw [hfσ951 163 j_ (by omega), eσ945, dk_up_n (show ¬ (163 = 169 ∧ j_ = i) by omega), eσ940, dk_up_n (show ¬ (163 = 163 ∧ j_ = i) by omega), hfσ932 163 j_ (by omega), eσ924, dk_up_n (show ¬ (163 = 162 ∧ j_ = i) by omega), hfσ916 163 j_ (by omega), hfσ837 163 j_ (by omega), hfσ827 163 j_ (by omega)], by rw [hfσ951 169 j_ (by omega), eσ945, dk_up_n (show ¬ (169 = 169 ∧ j_ = i) by omega), eσ940, dk_up_n (show ¬ (169 = 163 ∧ j_ = i) by omega), hfσ932 169 j_ (by omega), eσ924, dk_up_n (show ¬ (169 = 162 ∧ j_ = i) by omega), hfσ916 169 j_ (by omega), hfσ837 169 j_ (by omega), hfσ827 169 j_ (by omega)]⟩) (fun _ => ⟨by rw [← hi, hfσ951 162 i (by omega), eσ945, dk_up_n (show ¬ (162 = 169 ∧ i = i) by omega), eσ940, dk_up_n (show ¬ (162 = 163 ∧ i = i) by omega), hfσ932 162 i (by omega), eσ924, dk_up_s], by rw [← hi, hfσ951 163 i (by omega), eσ945, dk_up_n (show ¬ (163 = 169 ∧ i = i) by omega), eσ940, dk_up_s]; omega⟩), fun a_ q_ => Or.inr (by have x_ := (gi953).1.2.2.1; have t_ := hT.2.2 q_; have y_ := H85.2.2.1; omega)⟩⟩
              · skip
                have hz955 : σ945 141 3 = σ 141 3 := by rw [eσ945, dk_up_n (show ¬ (141 = 169 ∧ 3 = i) by omega), eσ940, dk_up_n (show ¬ (141 = 163 ∧ 3 = i) by omega), hfσ932 141 3 (by omega), eσ924, dk_up_n (show ¬ (141 = 162 ∧ 3 = i) by omega), hfσ916 141 3 (by omega), hfσ837 141 3 (by omega), hfσ827 141 3 (by omega)]
                refine dk_cV (pc' := 173) (as := [(0, 0)]) hE lk_X11_301 (ct_X11_must l G hGd 0) dX11_readRule_170 rfl is_141 rfl (by decide) (Nat.le_of_ble_eq_true rfl) ⟨rfl, (NX_tk (gi946).1), (by omega)⟩ rfl (fun r957 σ956 hr957 hor957 => ?_)
                obtain ⟨rfl, hfσ956, hpr957⟩ := hr957
                have gi958 : QX c r σ837 σ956 := QX_tr gi946 hpr957 (fun k_ j_ h_ => hfσ956 k_ j_ (by omega))
                have hz959 : σ956 141 42 = v939 := by rw [hfσ956 141 42 (by omega), eσ945, dk_up_n (show ¬ (141 = 169 ∧ 42 = i) by omega), eσ940, dk_up_n (show ¬ (141 = 163 ∧ 42 = i) by omega), hv939]
                exact dk_vret (st := []) hE hR dX11_readRule_173 ⟨rfl, (fun k_ j_ h_ => by rw [hfσ956 k_ j_ (fun w_ => h_ (w_.elim (fun x0_ => Or.inl (x0_)) (fun y0_ => y0_.elim (fun x1_ => Or.inr (Or.inl (x1_))) (fun y1_ => y1_.elim (fun x2_ => Or.inr (Or.inr (Or.inl (x2_)))) (fun y2_ => y2_.elim (fun x3_ => Or.inr (Or.inr (Or.inr (Or.inl (x3_))))) (fun y3_ => y3_.elim (fun x4_ => Or.inr (Or.inr (Or.inr (Or.inr (Or.inl (x4_)))))) (fun y4_ => y4_.elim (fun x5_ => Or.inr (Or.inr (Or.inr (Or.inr (Or.inr (Or.inl (x5_))))))) (fun y5_ => Or.inr (Or.inr (Or.inr (Or.inr (Or.inr (Or.inr (Or.inl (y5_))))))))))))))), eσ945, dk_up_n (show ¬ (k_ = 169 ∧ j_ = i) from fun q_ => h_ (Or.inr (Or.inr (Or.inr (Or.inr (Or.inr (Or.inr (Or.inr (Or.inr (Or.inr (Or.inr (Or.inr (Or.inr (Or.inr (q_.1))))))))))))))), eσ940, dk_up_n (show ¬ (k_ = 163 ∧ j_ = i) from fun q_ => h_ (Or.inr (Or.inr (Or.inr (Or.inr (Or.inr (Or.inr (Or.inr (Or.inr (Or.inr (Or.inr (Or.inr (Or.inr (Or.inl (dk_wr (lo := 162) (hi := 163) q_.1 (by decide)))))))))))))))), hfσ932 k_ j_ (fun w_ => h_ (w_.elim (fun x0_ => Or.inl (x0_)) (fun y0_ => y0_.elim (fun x1_ => Or.inr (Or.inl (x1_))) (fun y1_ => y1_.elim (fun x2_ => Or.inr (Or.inr (Or.inl (x2_)))) (fun y2_ => y2_.elim (fun x3_ => Or.inr (Or.inr (Or.inr (Or.inl (x3_))))) (fun y3_ => y3_.elim (fun x4_ => Or.inr (Or.inr (Or.inr (Or.inr (Or.inl (x4_)))))) (fun y4_ => y4_.elim (fun x5_ => Or.inr (Or.inr (Or.inr (Or.inr (Or.inr (Or.inl (x5_))))))) (fun y5_ => y5_.elim (fun x6_ => Or.inr (Or.inr (Or.inr (Or.inr (Or.inr (Or.inr (Or.inl (x6_)))))))) (fun y6_ => y6_.elim (fun x7_ => Or.inr (Or.inr (Or.inr (Or.inr (Or.inr (Or.inr (Or.inr (Or.inl (x7_))))))))) (fun y7_ => y7_.elim (fun x8_ => Or.inr (Or.inr (Or.inr (Or.inr (Or.inr (Or.inr (Or.inr (Or.inr (Or.inl (x8_)))))))))) (fun y8_ => y8_.elim (fun x9_ => Or.inr (Or.inr (Or.inr (Or.inr (Or.inr (Or.inr (Or.inr (Or.inr (Or.inr (Or.inl (x9_))))))))))) (fun y9_ => y9_.elim (fun x10_ => Or.inr (Or.inr (Or.inr (Or.inr (Or.inr (Or.inr (Or.inr (Or.inr (Or.inr (Or.inr (Or.inl (x10_)))))))))))) (fun y10_ => Or.inr (Or.inr (Or.inr (Or.inr (Or.inr (Or.inr (Or.inr (Or.inr (Or.inr (Or.inr (Or.inr (Or.inl (y10_))))))))))))))))))))))))), eσ924, dk_up_n (show ¬ (k_ = 162 ∧ j_ = i) from fun q_ => h_ (Or.inr (Or.inr (Or.inr (Or.inr (Or.inr (Or.inr (Or.inr (Or.inr (Or.inr (Or.inr (Or.inr (Or.inr (Or.inl (dk_wr (lo := 162) (hi := 163) q_.1 (by decide)))))))))))))))), hfσ916 k_ j_ (fun w_ => h_ (w_.elim (fun x0_ => Or.inl (x0_)) (fun y0_ => y0_.elim (fun x1_ => Or.inr (Or.inl (x1_))) (fun y1_ => y1_.elim (fun x2_ => Or.inr (Or.inr (Or.inl (x2_)))) (fun y2_ => y2_.elim (fun x3_ => Or.inr (Or.inr (Or.inr (Or.inl (x3_))))) (fun y3_ => y3_.elim (fun x4_ => Or.inr (Or.inr (Or.inr (Or.inr (Or.inl (x4_)))))) (fun y4_ => y4_.elim (fun x5_ => Or.inr (Or.inr (Or.inr (Or.inr (Or.inr (Or.inl (x5_))))))) (fun y5_ => Or.inr (Or.inr (Or.inr (Or.inr (Or.inr (Or.inr (Or.inl (y5_))))))))))))))), hfσ837 k_ j_ (fun w_ => h_ (w_.elim (fun x0_ => Or.inr (Or.inr (Or.inl (x0_)))) (fun y0_ => y0_.elim (fun x1_ => Or.inr (Or.inr (Or.inr (Or.inl (x1_))))) (fun y1_ => y1_.elim (fun x2_ => Or.inr (Or.inr (Or.inr (Or.inr (Or.inl (x2_)))))) (fun y2_ => y2_.elim (fun x3_ => Or.inr (Or.inr (Or.inr (Or.inr (Or.inr (Or.inl (x3_))))))) (fun y3_ => Or.inr (Or.inr (Or.inr (Or.inr (Or.inr (Or.inr (Or.inl (y3_))))))))))))), hfσ827 k_ j_ (fun w_ => h_ (w_.elim (fun x0_ => Or.inl (x0_)) (fun y0_ => Or.inr (Or.inl (y0_)))))]), ⟨NX_tr hB.1 (gi958).1, RS_line (n := (-1)) hRS hc.symm (QX_qx hB hB2 gi958) (by omega) (fun j_ h_ => ⟨by rw [hfσ956 162 j_ (by omega), eσ945, dk_up_n (show ¬ (162 = 169 ∧ j_ = i) by omega), eσ940, dk_up_n (show ¬ (162 = 163 ∧ j_ = i) by omega), hfσ932 162 j_ (by omega), eσ924, dk_up_n (show ¬ (162 = 162 ∧ j_ = i) by omega), hfσ916 162 j_ (by omega), hfσ837 162 j_ (by omega), hfσ827 162 j_ (by omega)], by rw [hfσ956 163 j_ (by omega), eσ945, dk_up_n (show ¬ (163 = 169 ∧ j_ = i) by omega), eσ940, dk_up_n (show ¬ (163 = 163 ∧ j_ = i) by omega), hfσ932 163 j_ (by omega), eσ924, dk_up_n (show ¬ (163 = 162 ∧ j_ = i) by omega), hfσ916 163 j_ (by omega), hfσ837 163 j_ (by omega), hfσ827 163 j_ (by omega)], by rw [hfσ956 169 j_ (by omega), eσ945, dk_up_n (show ¬ (169 = 169 ∧ j_ = i) by omega), eσ940, dk_up_n (show ¬ (169 = 163 ∧ j_ = i) by omega), hfσ932 169 j_ (by omega), eσ924, dk_up_n (show ¬ (169 = 162 ∧ j_ = i) by omega), hfσ916 169 j_ (by omega), hfσ837 169 j_ (by omega), hfσ827 169 j_ (by omega)]⟩) (fun _ => ⟨by rw [← hi, hfσ956 162 i (by omega), eσ945, dk_up_n (show ¬ (162 = 169 ∧ i = i) by omega), eσ940, dk_up_n (show ¬ (162 = 163 ∧ i = i) by omega), hfσ932 162 i (by omega), eσ924, dk_up_s], by rw [← hi, hfσ956 163 i (by omega), eσ945, dk_up_n (show ¬ (163 = 169 ∧ i = i) by omega), eσ940, dk_up_s]; omega⟩), fun a_ q_ => Or.inr (by have x_ := (gi958).1.2.2.1; have t_ := hT.2.2 q_; have y_ := H85.2.2.1; omega)⟩⟩
            · skip
              refine dk_if_eq (tgt := 132) (pc' := 128) hE dX11_readRule_125 (by decide) rfl (fun hc960 => ?_) (fun hc960 => absurd hc960 (by decide))
              refine dk_aload_n (pc' := 133) hE dX11_readRule_132 rfl rfl rfl ?_
              refine gf_11_34 (pc' := 136) (w := 163) hE fl_X11_80 dX11_readRule_133 is_141 rfl rfl ?_
              refine dk_iconst (pc' := 137) hE dX11_readRule_136 (by decide) rfl ?_
              refine dk_aload_n (pc' := 138) hE dX11_readRule_137 rfl rfl rfl ?_
              refine gf_11_41 (pc' := 141) hE fl_X11_374 dX11_readRule_138 is_141 rfl (fun v961 hv961 htv961 hbv961 => ?_)
              have hq961 : v920 = v961 := (show v961 = v920 by rw [hv961, eσ924, dk_up_n (show ¬ (141 = 162 ∧ 41 = i) by omega), hv920]).symm
              subst hq961
              clear htv961 hbv961
              obtain ⟨v962, hv962⟩ : ∃ z : Int, z = 3 * v920 := ⟨_, rfl⟩
              refine dk_imul (pc' := 142) hE dX11_readRule_141 hv962.symm (by omega) rfl ?_
              refine dk_iload_n (pc' := 143) hE dX11_readRule_142 rfl rfl rfl ?_
              obtain ⟨v963, hv963⟩ : ∃ z : Int, z = v962 + (-1) := ⟨_, rfl⟩
              refine dk_iadd (pc' := 144) hE dX11_readRule_143 hv963.symm (by omega) rfl ?_
              have hrnv963 : i = v963 := by omega
              subst hrnv963
              refine dk_aload_n (pc' := 145) hE dX11_readRule_144 rfl rfl rfl ?_
              refine gf_11_42 (pc' := 148) hE fl_X11_377 dX11_readRule_145 is_141 rfl (fun v964 hv964 htv964 hbv964 => ?_)
              have hq964 : c = v964 := (show v964 = c by rw [hv964, eσ924, dk_up_n (show ¬ (141 = 162 ∧ 42 = i) by omega), hv923]).symm
              subst hq964
              clear htv964 hbv964
              refine pa_91 (pc' := 149) hE dX11_readRule_148 is_163 (by omega) trivial rfl (fun σ965 eσ965 => ?_)
              have gi966 : QX c r σ837 σ965 := QX_u gi925 (by omega) (by omega) eσ965
              refine dk_aload_n (pc' := 150) hE dX11_readRule_149 rfl rfl rfl ?_
              refine gf_11_40 (pc' := 153) (w := 169) hE fl_X11_98 dX11_readRule_150 is_141 rfl rfl ?_
              refine dk_iconst (pc' := 154) hE dX11_readRule_153 (by decide) rfl ?_
              refine dk_aload_n (pc' := 155) hE dX11_readRule_154 rfl rfl rfl ?_
              refine gf_11_41 (pc' := 158) hE fl_X11_374 dX11_readRule_155 is_141 rfl (fun v967 hv967 htv967 hbv967 => ?_)
              have hq967 : v920 = v967 := (show v967 = v920 by rw [hv967, eσ965, dk_up_n (show ¬ (141 = 163 ∧ 41 = i) by omega), hv961]).symm
              subst hq967
              clear htv967 hbv967
              obtain ⟨v968, hv968⟩ : ∃ z : Int, z = 3 * v920 := ⟨_, rfl⟩
              refine dk_imul (pc' := 159) hE dX11_readRule_158 hv968.symm (by omega) rfl ?_
              refine dk_iload_n (pc' := 160) hE dX11_readRule_159 rfl rfl rfl ?_
              obtain ⟨v969, hv969⟩ : ∃ z : Int, z = v968 + (-1) := ⟨_, rfl⟩
              refine dk_iadd (pc' := 161) hE dX11_readRule_160 hv969.symm (by omega) rfl ?_
              have hrnv969 : i = v969 := by omega
              subst hrnv969
              refine dk_iconst (pc' := 162) hE dX11_readRule_161 (by decide) rfl ?_
              refine pa_97 (pc' := 163) hE dX11_readRule_162 is_169 (by omega) (by omega) trivial rfl (fun σ970 eσ970 => ?_)
              have gi971 : QX c r σ837 σ970 := QX_u gi966 (by omega) (by omega) eσ970
              refine dk_aload_n (pc' := 164) hE dX11_readRule_163 rfl rfl rfl ?_
              refine dk_aload_n (pc' := 165) hE dX11_readRule_164 rfl rfl rfl ?_
              refine dk_bipush (pc' := 167) hE dX11_readRule_165 (by decide) rfl ?_
              refine dk_cV (pc' := 170) (as := [(0, 59)]) hE lk_X11_298 (ct_X11_is l G hGd 59) dX11_readRule_167 rfl is_141 rfl (by decide) (Nat.le_of_ble_eq_true rfl) rfl rfl (fun r973 σ972 hr973 hor973 => ?_)
              obtain ⟨v974, rfl, hfσ972, hpr973⟩ := hr973
              have hsσ972 : σ970 = σ972 := (funext (fun k => funext (fun j => hfσ972 k j not_false))).symm
              subst hsσ972
              rcases hpr973 with ⟨rfl, hpr973⟩ | rfl
              · skip
                have hz975 : σ970 141 3 = σ 141 3 := by rw [eσ970, dk_up_n (show ¬ (141 = 169 ∧ 3 = i) by omega), eσ965, dk_up_n (show ¬ (141 = 163 ∧ 3 = i) by omega), eσ924, dk_up_n (show ¬ (141 = 162 ∧ 3 = i) by omega), hfσ916 141 3 (by omega), hfσ837 141 3 (by omega), hfσ827 141 3 (by omega)]
                refine dk_cV (pc' := 173) (as := [(0, 1)]) hE lk_X11_301 (ct_X11_must l G hGd 1) dX11_readRule_170 rfl is_141 rfl (by decide) (Nat.le_of_ble_eq_true rfl) ⟨rfl, (NX_tk (gi971).1), (by omega)⟩ rfl (fun r977 σ976 hr977 hor977 => ?_)
                obtain ⟨rfl, hfσ976, hpr977⟩ := hr977
                have gi978 : QX c r σ837 σ976 := QX_tr gi971 hpr977 (fun k_ j_ h_ => hfσ976 k_ j_ (by omega))
                have hz979 : σ976 141 42 = c := by rw [hfσ976 141 42 (by omega), eσ970, dk_up_n (show ¬ (141 = 169 ∧ 42 = i) by omega), eσ965, dk_up_n (show ¬ (141 = 163 ∧ 42 = i) by omega), hv964]
                exact dk_vret (st := []) hE hR dX11_readRule_173 ⟨rfl, (fun k_ j_ h_ => by rw [hfσ976 k_ j_ (fun w_ => h_ (w_.elim (fun x0_ => Or.inl (x0_)) (fun y0_ => y0_.elim (fun x1_ => Or.inr (Or.inl (x1_))) (fun y1_ => y1_.elim (fun x2_ => Or.inr (Or.inr (Or.inl (x2_)))) (fun y2_ => y2_.elim (fun x3_ => Or.inr (Or.inr (Or.inr (Or.inl (x3_))))) (fun y3_ => y3_.elim (fun x4_ => Or.inr (Or.inr (Or.inr (Or.inr (Or.inl (x4_)))))) (fun y4_ => y4_.elim (fun x5_ => Or.inr (Or.inr (Or.inr (Or.inr (Or.inr (Or.inl (x5_))))))) (fun y5_ => Or.inr (Or.inr (Or.inr (Or.inr (Or.inr (Or.inr (Or.inl (y5_))))))))))))))), eσ970, dk_up_n (show ¬ (k_ = 169 ∧ j_ = i) from fun q_ => h_ (Or.inr (Or.inr (Or.inr (Or.inr (Or.inr (Or.inr (Or.inr (Or.inr (Or.inr (Or.inr (Or.inr (Or.inr (Or.inr (q_.1))))))))))))))), eσ965, dk_up_n (show ¬ (k_ = 163 ∧ j_ = i) from fun q_ => h_ (Or.inr (Or.inr (Or.inr (Or.inr (Or.inr (Or.inr (Or.inr (Or.inr (Or.inr (Or.inr (Or.inr (Or.inr (Or.inl (dk_wr (lo := 162) (hi := 163) q_.1 (by decide)))))))))))))))), eσ924, dk_up_n (show ¬ (k_ = 162 ∧ j_ = i) from fun q_ => h_ (Or.inr (Or.inr (Or.inr (Or.inr (Or.inr (Or.inr (Or.inr (Or.inr (Or.inr (Or.inr (Or.inr (Or.inr (Or.inl (dk_wr (lo := 162) (hi := 163) q_.1 (by decide)))))))))))))))), hfσ916 k_ j_ (fun w_ => h_ (w_.elim (fun x0_ => Or.inl (x0_)) (fun y0_ => y0_.elim (fun x1_ => Or.inr (Or.inl (x1_))) (fun y1_ => y1_.elim (fun x2_ => Or.inr (Or.inr (Or.inl (x2_)))) (fun y2_ => y2_.elim (fun x3_ => Or.inr (Or.inr (Or.inr (Or.inl (x3_))))) (fun y3_ => y3_.elim (fun x4_ => Or.inr (Or.inr (Or.inr (Or.inr (Or.inl (x4_)))))) (fun y4_ => y4_.elim (fun x5_ => Or.inr (Or.inr (Or.inr (Or.inr (Or.inr (Or.inl (x5_))))))) (fun y5_ => Or.inr (Or.inr (Or.inr (Or.inr (Or.inr (Or.inr (Or.inl (y5_))))))))))))))), hfσ837 k_ j_ (fun w_ => h_ (w_.elim (fun x0_ => Or.inr (Or.inr (Or.inl (x0_)))) (fun y0_ => y0_.elim (fun x1_ => Or.inr (Or.inr (Or.inr (Or.inl (x1_))))) (fun y1_ => y1_.elim (fun x2_ => Or.inr (Or.inr (Or.inr (Or.inr (Or.inl (x2_)))))) (fun y2_ => y2_.elim (fun x3_ => Or.inr (Or.inr (Or.inr (Or.inr (Or.inr (Or.inl (x3_))))))) (fun y3_ => Or.inr (Or.inr (Or.inr (Or.inr (Or.inr (Or.inr (Or.inl (y3_))))))))))))), hfσ827 k_ j_ (fun w_ => h_ (w_.elim (fun x0_ => Or.inl (x0_)) (fun y0_ => Or.inr (Or.inl (y0_)))))]), ⟨NX_tr hB.1 (gi978).1, RS_line (n := (-1)) hRS hc.symm (QX_qx hB hB2 gi978) (by omega) (fun j_ h_ => ⟨by rw [hfσ976 162 j_ (by omega), eσ970, dk_up_n (show ¬ (162 = 169 ∧ j_ = i) by omega), eσ965, dk_up_n (show ¬ (162 = 163 ∧ j_ = i) by omega), eσ924, dk_up_n (show ¬ (162 = 162 ∧ j_ = i) by omega), hfσ916 162 j_ (by omega), hfσ837 162 j_ (by omega), hfσ827 162 j_ (by omega)], by rw [hfσ976 163 j_ (by omega), eσ970, dk_up_n (show ¬ (163 = 169 ∧ j_ = i) by omega), eσ965, dk_up_n (show ¬ (163 = 163 ∧ j_ = i) by omega), eσ924, dk_up_n (show ¬ (163 = 162 ∧ j_ = i) by omega), hfσ916 163 j_ (by omega), hfσ837 163 j_ (by omega), hfσ827 163 j_ (by omega)], by rw [hfσ976 169 j_ (by omega), eσ970, dk_up_n (show ¬ (169 = 169 ∧ j_ = i) by omega), eσ965, dk_up_n (show ¬ (169 = 163 ∧ j_ = i) by omega), eσ924, dk_up_n (show ¬ (169 = 162 ∧ j_ = i) by omega), hfσ916 169 j_ (by omega), hfσ837 169 j_ (by omega), hfσ827 169 j_ (by omega)]⟩) (fun _ => ⟨by rw [← hi, hfσ976 162 i (by omega), eσ970, dk_up_n (show ¬ (162 = 169 ∧ i = i) by omega), eσ965, dk_up_n (show ¬ (162 = 163 ∧ i = i) by omega), eσ924, dk_up_s], by rw [← hi, hfσ976 163 i (by omega), eσ970, dk_up_n (show ¬ (163 = 169 ∧ i = i) by omega), eσ965, dk_up_s]; omega⟩), fun a_ q_ => Or.inr (by have x_ := (gi978).1.2.2.1; have t_ := hT.2.2 q_; have y_ := H85.2.2.1; omega)⟩⟩
              · skip
                have hz980 : σ970 141 3 = σ 141 3 := by rw [eσ970, dk_up_n (show ¬ (141 = 169 ∧ 3 = i) by omega), eσ965, dk_up_n (show ¬ (141 = 163 ∧ 3 = i) by omega), eσ924, dk_up_n (show ¬ (141 = 162 ∧ 3 = i) by omega), hfσ916 141 3 (by omega), hfσ837 141 3 (by omega), hfσ827 141 3 (by omega)]
                refine dk_cV (pc' := 173) (as := [(0, 0)]) hE lk_X11_301 (ct_X11_must l G hGd 0) dX11_readRule_170 rfl is_141 rfl (by decide) (Nat.le_of_ble_eq_true rfl) ⟨rfl, (NX_tk (gi971).1), (by omega)⟩ rfl (fun r982 σ981 hr982 hor982 => ?_)
                obtain ⟨rfl, hfσ981, hpr982⟩ := hr982
                have gi983 : QX c r σ837 σ981 := QX_tr gi971 hpr982 (fun k_ j_ h_ => hfσ981 k_ j_ (by omega))
                have hz984 : σ981 141 42 = c := by rw [hfσ981 141 42 (by omega), eσ970, dk_up_n (show ¬ (141 = 169 ∧ 42 = i) by omega), eσ965, dk_up_n (show ¬ (141 = 163 ∧ 42 = i) by omega), hv964]
                exact dk_vret (st := []) hE hR dX11_readRule_173 ⟨rfl, (fun k_ j_ h_ => by rw [hfσ981 k_ j_ (fun w_ => h_ (w_.elim (fun x0_ => Or.inl (x0_)) (fun y0_ => y0_.elim (fun x1_ => Or.inr (Or.inl (x1_))) (fun y1_ => y1_.elim (fun x2_ => Or.inr (Or.inr (Or.inl (x2_)))) (fun y2_ => y2_.elim (fun x3_ => Or.inr (Or.inr (Or.inr (Or.inl (x3_))))) (fun y3_ => y3_.elim (fun x4_ => Or.inr (Or.inr (Or.inr (Or.inr (Or.inl (x4_)))))) (fun y4_ => y4_.elim (fun x5_ => Or.inr (Or.inr (Or.inr (Or.inr (Or.inr (Or.inl (x5_))))))) (fun y5_ => Or.inr (Or.inr (Or.inr (Or.inr (Or.inr (Or.inr (Or.inl (y5_))))))))))))))), eσ970, dk_up_n (show ¬ (k_ = 169 ∧ j_ = i) from fun q_ => h_ (Or.inr (Or.inr (Or.inr (Or.inr (Or.inr (Or.inr (Or.inr (Or.inr (Or.inr (Or.inr (Or.inr (Or.inr (Or.inr (q_.1))))))))))))))), eσ965, dk_up_n (show ¬ (k_ = 163 ∧ j_ = i) from fun q_ => h_ (Or.inr (Or.inr (Or.inr (Or.inr (Or.inr (Or.inr (Or.inr (Or.inr (Or.inr (Or.inr (Or.inr (Or.inr (Or.inl (dk_wr (lo := 162) (hi := 163) q_.1 (by decide)))))))))))))))), eσ924, dk_up_n (show ¬ (k_ = 162 ∧ j_ = i) from fun q_ => h_ (Or.inr (Or.inr (Or.inr (Or.inr (Or.inr (Or.inr (Or.inr (Or.inr (Or.inr (Or.inr (Or.inr (Or.inr (Or.inl (dk_wr (lo := 162) (hi := 163) q_.1 (by decide)))))))))))))))), hfσ916 k_ j_ (fun w_ => h_ (w_.elim (fun x0_ => Or.inl (x0_)) (fun y0_ => y0_.elim (fun x1_ => Or.inr (Or.inl (x1_))) (fun y1_ => y1_.elim (fun x2_ => Or.inr (Or.inr (Or.inl (x2_)))) (fun y2_ => y2_.elim (fun x3_ => Or.inr (Or.inr (Or.inr (Or.inl (x3_))))) (fun y3_ => y3_.elim (fun x4_ => Or.inr (Or.inr (Or.inr (Or.inr (Or.inl (x4_)))))) (fun y4_ => y4_.elim (fun x5_ => Or.inr (Or.inr (Or.inr (Or.inr (Or.inr (Or.inl (x5_))))))) (fun y5_ => Or.inr (Or.inr (Or.inr (Or.inr (Or.inr (Or.inr (Or.inl (y5_))))))))))))))), hfσ837 k_ j_ (fun w_ => h_ (w_.elim (fun x0_ => Or.inr (Or.inr (Or.inl (x0_)))) (fun y0_ => y0_.elim (fun x1_ => Or.inr (Or.inr (Or.inr (Or.inl (x1_))))) (fun y1_ => y1_.elim (fun x2_ => Or.inr (Or.inr (Or.inr (Or.inr (Or.inl (x2_)))))) (fun y2_ => y2_.elim (fun x3_ => Or.inr (Or.inr (Or.inr (Or.inr (Or.inr (Or.inl (x3_))))))) (fun y3_ => Or.inr (Or.inr (Or.inr (Or.inr (Or.inr (Or.inr (Or.inl (y3_))))))))))))), hfσ827 k_ j_ (fun w_ => h_ (w_.elim (fun x0_ => Or.inl (x0_)) (fun y0_ => Or.inr (Or.inl (y0_)))))]), ⟨NX_tr hB.1 (gi983).1, RS_line (n := (-1)) hRS hc.symm (QX_qx hB hB2 gi983) (by omega) (fun j_ h_ => ⟨by rw [hfσ981 162 j_ (by omega), eσ970, dk_up_n (show ¬ (162 = 169 ∧ j_ = i) by omega), eσ965, dk_up_n (show ¬ (162 = 163 ∧ j_ = i) by omega), eσ924, dk_up_n (show ¬ (162 = 162 ∧ j_ = i) by omega), hfσ916 162 j_ (by omega), hfσ837 162 j_ (by omega), hfσ827 162 j_ (by omega)], by rw [hfσ981 163 j_ (by omega), eσ970, dk_up_n (show ¬ (163 = 169 ∧ j_ = i) by omega), eσ965, dk_up_n (show ¬ (163 = 163 ∧ j_ = i) by omega), eσ924, dk_up_n (show ¬ (163 = 162 ∧ j_ = i) by omega), hfσ916 163 j_ (by omega), hfσ837 163 j_ (by omega), hfσ827 163 j_ (by omega)], by rw [hfσ981 169 j_ (by omega), eσ970, dk_up_n (show ¬ (169 = 169 ∧ j_ = i) by omega), eσ965, dk_up_n (show ¬ (169 = 163 ∧ j_ = i) by omega), eσ924, dk_up_n (show ¬ (169 = 162 ∧ j_ = i) by omega), hfσ916 169 j_ (by omega), hfσ837 169 j_ (by omega), hfσ827 169 j_ (by omega)]⟩) (fun _ => ⟨by rw [← hi, hfσ981 162 i (by omega), eσ970, dk_up_n (show ¬ (162 = 169 ∧ i = i) by omega), eσ965, dk_up_n (show ¬ (162 = 163 ∧ i = i) by omega), eσ924, dk_up_s], by rw [← hi, hfσ981 163 i (by omega), eσ970, dk_up_n (show ¬ (163 = 169 ∧ i = i) by omega), eσ965, dk_up_s]; omega⟩), fun a_ q_ => Or.inr (by have x_ := (gi983).1.2.2.1; have t_ := hT.2.2 q_; have y_ := H85.2.2.1; omega)⟩⟩
        · skip
          refine dk_if_ne (tgt := 84) (pc' := 83) hE dX11_readRule_80 (by decide) rfl (fun hc985 => absurd hc985 (by decide)) (fun hc985 => ?_)
          have hz986 : σ827 141 42 = c := by rw [hfσ827 141 42 (by omega), hc]
          exact dk_vret (st := []) hE hR dX11_readRule_83 ⟨rfl, (fun k_ j_ h_ => by rw [hfσ827 k_ j_ (fun w_ => h_ (w_.elim (fun x0_ => Or.inl (x0_)) (fun y0_ => Or.inr (Or.inl (y0_)))))]), ⟨(gi829).1, RS_fr hRS (gi829).1 (fun k_ j_ h_ => by rw [hfσ827 k_ j_ (by omega)]), fun a_ q_ => Or.inl (by omega)⟩⟩
