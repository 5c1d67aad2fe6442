theorem fpj295_42 {k j : Int} (h : k = 141 ∧ j = 42) : ¬ mFP k j := by obtain ⟨rfl, rfl⟩ := h; omega
theorem fpj295_43 {k j : Int} (h : k = 141 ∧ j = 43) : ¬ mFP k j := by obtain ⟨rfl, rfl⟩ := h; omega
theorem fpw295_764100137 : ∀ k_ j_ : Int, mFP k_ j_ → ¬ ((k_ = 141 ∧ j_ = 2) ∨ (k_ = 141 ∧ j_ = 3) ∨ (k_ = 141 ∧ j_ = 4) ∨ (k_ = 141 ∧ j_ = 5) ∨ (k_ = 141 ∧ j_ = 7) ∨ k_ = 143) := by intro k_ j_ h; omega
theorem fpw295_2315762207 : ∀ k_ j_ : Int, mFP k_ j_ → ¬ ((k_ = 141 ∧ j_ = 6) ∨ (k_ = 141 ∧ j_ = 7) ∨ (k_ = 141 ∧ j_ = 8) ∨ (k_ = 141 ∧ j_ = 9) ∨ (k_ = 141 ∧ j_ = 10)) := by intro k_ j_ h; omega
set_option maxHeartbeats 4000000 in
set_option maxRecDepth 20000 in
theorem ct_X11_rules (l : Launch) (G : dkG) (hGd : dk_Gd G) (d r : Int) : dk_Ct l G dk_Ty yX11_rules cX11_rules 3 (some .int) 7 190 190 (fun av σ => av = [(4, 141), (0, d)] ∧ (MI σ) ∧ (r = σ 141 41)) (fun _ σ r_ σ' => ∃ z : Int, r_ = some (0, z) ∧ (∀ k_ j_ : Int, ¬ ((k_ = 141 ∧ j_ = 2) ∨ (k_ = 141 ∧ j_ = 3) ∨ (k_ = 141 ∧ j_ = 4) ∨ (k_ = 141 ∧ j_ = 5) ∨ (k_ = 141 ∧ j_ = 6) ∨ (k_ = 141 ∧ j_ = 7) ∨ (k_ = 141 ∧ j_ = 8) ∨ (k_ = 141 ∧ j_ = 9) ∨ (k_ = 141 ∧ j_ = 10) ∨ (k_ = 141 ∧ j_ = 41) ∨ (k_ = 141 ∧ j_ = 42) ∨ (k_ = 141 ∧ j_ = 43) ∨ (k_ = 141 ∧ j_ = 44) ∨ (k_ = 141 ∧ j_ = 45) ∨ k_ = 143 ∨ (161 ≤ k_ ∧ k_ ≤ 169)) → σ' k_ j_ = σ k_ j_) ∧ (MI σ')) := by
  refine dk_enter hGd (by decide) (fun av σ hpre hok => ?_)
  obtain ⟨rfl, hG, hr⟩ := hpre
  refine ⟨Nat.le_of_ble_eq_true rfl, fun E hE hR _ => ?_⟩
  have hi_d : dk_i32 d := dk_oki (hok _ (by simp))
  show dk_PJ E 0 [(4, 141), (0, d), (9, 0)] [] 190 σ
  refine dk_aload_n (pc' := 1) hE dX11_rules_0 rfl rfl rfl ?_
  refine gf_11_2 (pc' := 4) hE fl_X11_260 dX11_rules_1 is_141 rfl (fun v1 hv1 htv1 hbv1 => ?_)
  refine dk_sipush (pc' := 7) hE dX11_rules_4 (by decide) rfl ?_
  refine dk_icmp_gt (tgt := 26) (pc' := 10) hE dX11_rules_7 (by decide) rfl (fun hc2 => ?_) (fun hc2 => ?_)
  · skip
    refine dk_bipush (pc' := 28) hE dX11_rules_26 (by decide) rfl ?_
    exact dk_iret (st := []) hE hR dX11_rules_28 ⟨_, rfl, (fun k_ j_ h_ => rfl), hG⟩
  · skip
    refine dk_iload_n (pc' := 11) hE dX11_rules_10 rfl rfl rfl ?_
    refine dk_cS (pc' := 14) (as := [(0, d)]) hE lk_X11_371 (ct_X11_isDay l G hGd d) dX11_rules_11 rfl rfl (by decide) (Nat.le_of_ble_eq_true rfl) rfl rfl (fun r4 σ3 hr4 hor4 => ?_)
    obtain ⟨v5, rfl, hfσ3, hpr4⟩ := hr4
    have hsσ3 : σ = σ3 := (funext (fun k => funext (fun j => hfσ3 k j not_false))).symm
    subst hsσ3
    rcases hpr4 with ⟨rfl, hpr4⟩ | ⟨rfl, hpr4⟩
    · skip
      refine dk_if_eq (tgt := 26) (pc' := 17) hE dX11_rules_14 (by decide) rfl (fun hc6 => absurd hc6 (by decide)) (fun hc6 => ?_)
      refine dk_aload_n (pc' := 18) hE dX11_rules_17 rfl rfl rfl ?_
      refine gf_11_41 (pc' := 21) hE fl_X11_374 dX11_rules_18 is_141 rfl (fun v7 hv7 htv7 hbv7 => ?_)
      have hq7 : r = v7 := (show v7 = r by rw [hv7, hr]).symm
      subst hq7
      refine dk_bipush (pc' := 23) hE dX11_rules_21 (by decide) rfl ?_
      refine dk_icmp_ne (tgt := 29) (pc' := 26) hE dX11_rules_23 (by decide) rfl (fun hc8 => ?_) (fun hc8 => ?_)
      · skip
        refine dk_aload_n (pc' := 30) hE dX11_rules_29 rfl rfl rfl ?_
        refine dk_cV (pc' := 33) (as := []) hE lk_X11_263 (ct_X11_takeTape l G hGd) dX11_rules_30 rfl is_141 rfl (by decide) (Nat.le_of_ble_eq_true rfl) rfl rfl (fun r10 σ9 hr10 hor10 => ?_)
        obtain ⟨rfl, hfσ9, hpr10⟩ := hr10
        refine dk_iconst (pc' := 34) hE dX11_rules_33 (by decide) rfl ?_
        refine dk_istore_n (pc' := 35) (ls' := [(4, 141), (0, d), (0, 0)]) hE dX11_rules_34 rfl rfl (by decide) rfl ?_
        have lp35 : ∀ (N_ : Nat) (i : Int) (σ35c : dkS), (2147483648 - i).toNat < N_ → ((∀ k_ j_ : Int, ¬ (k_ = 169) → σ35c k_ j_ = σ9 k_ j_)) → (MI σ35c) → (0 ≤ i) → (∀ n_ : Int, 0 ≤ n_ → n_ < i → σ35c 169 (3 * r + n_) = 0) → dk_PJ E 35 [(4, 141), (0, d), (0, i)] [] 190 σ35c := by
          intro N35
          induction N35 with
          | zero => intro i σ35c hm; exact absurd hm (Nat.not_lt_zero _)
          | succ N35 ih35 =>
            intro i σ35c hm35 hF35 hG35 hi0 h169
            refine dk_iload_n (pc' := 36) hE dX11_rules_35 rfl rfl rfl ?_
            refine dk_iconst (pc' := 37) hE dX11_rules_36 (by decide) rfl ?_
            refine dk_icmp_ge (tgt := 60) (pc' := 40) hE dX11_rules_37 (by decide) rfl (fun hc11 => ?_) (fun hc11 => ?_)
            · skip
              refine dk_aload_n (pc' := 61) hE dX11_rules_60 rfl rfl rfl ?_
              refine dk_iconst (pc' := 62) hE dX11_rules_61 (by decide) rfl ?_
              refine pf_11_42 (pc' := 65) hE fl_X11_377 dX11_rules_62 is_141 (by omega) rfl (fun σ12 eσ12 => ?_)
              refine dk_aload_n (pc' := 66) hE dX11_rules_65 rfl rfl rfl ?_
              refine dk_iconst (pc' := 67) hE dX11_rules_66 (by decide) rfl ?_
              refine pf_11_43 (pc' := 70) hE fl_X11_380 dX11_rules_67 is_141 (by omega) rfl (fun σ13 eσ13 => ?_)
              refine dk_aload_n (pc' := 71) hE dX11_rules_70 rfl rfl rfl ?_
              have hz14 : σ13 141 7 = 0 := by rw [eσ13, dk_up_n (show ¬ (141 = 141 ∧ 7 = 43) by omega), eσ12, dk_up_n (show ¬ (141 = 141 ∧ 7 = 42) by omega), hF35 141 7 (by omega), (hpr10.2.1).symm]
              have hz15 : σ13 141 3 = σ 141 2 := by rw [eσ13, dk_up_n (show ¬ (141 = 141 ∧ 3 = 43) by omega), eσ12, dk_up_n (show ¬ (141 = 141 ∧ 3 = 42) by omega), hF35 141 3 (by omega), (hpr10.1).symm]
              have hz16 : σ13 141 3 = σ 141 2 := by rw [eσ13, dk_up_n (show ¬ (141 = 141 ∧ 3 = 43) by omega), eσ12, dk_up_n (show ¬ (141 = 141 ∧ 3 = 42) by omega), hF35 141 3 (by omega), (hpr10.1).symm]
              refine dk_cV (pc' := 74) (as := []) hE lk_X11_254 (ct_X11_next l G hGd) dX11_rules_71 rfl is_141 rfl (by decide) (Nat.le_of_ble_eq_true rfl) ⟨rfl, (by omega), (by omega)⟩ rfl (fun r18 σ17 hr18 hor18 => ?_)
              obtain ⟨rfl, hfσ17, hpr18⟩ := hr18
              have H71 := hpr18
              have hz19 : σ17 141 41 = r := by rw [hfσ17 141 41 (by omega), eσ13, dk_up_n (show ¬ (141 = 141 ∧ 41 = 43) by omega), eσ12, dk_up_n (show ¬ (141 = 141 ∧ 41 = 42) by omega), hF35 141 41 (by omega), hfσ9 141 41 (by omega), hv7]
              have hz20 : σ17 141 42 = 0 := by rw [hfσ17 141 42 (by omega), eσ13, dk_up_n (show ¬ (141 = 141 ∧ 42 = 43) by omega), eσ12, dk_up_s]
              have hz21 : σ17 141 43 = 0 := by rw [hfσ17 141 43 (by omega), eσ13, dk_up_s]
              have gi22 : MI σ17 := MI_fr hG35 (fun k_ j_ h_ => by rw [hfσ17 k_ j_ (fpw295_2315762207 k_ j_ h_), eσ13, dk_up_n (show ¬ (k_ = 141 ∧ j_ = 43) from fun q_ => fpj295_43 q_ h_), eσ12, dk_up_n (show ¬ (k_ = 141 ∧ j_ = 42) from fun q_ => fpj295_42 q_ h_)])
              have hMI71 : MI σ17 := gi22
              have h169_ : ∀ n_ : Int, 0 ≤ n_ → n_ < 3 → σ17 169 (3 * r + n_) = 0 := fun n_ a_ b_ => by have e_ := (fun j_ => (by rw [hfσ17 169 j_ (by omega), eσ13, dk_up_n (show ¬ (169 = 141 ∧ j_ = 43) by omega), eσ12, dk_up_n (show ¬ (169 = 141 ∧ j_ = 42) by omega)] : σ17 169 j_ = σ35c 169 j_)) (3 * r + n_); rw [e_]; exact h169 n_ a_ (by omega)
              have h3_ := H71.1
              have h6_ := H71.2.2.1
              have lp74 : ∀ (N_ : Nat) (σ74c : dkS), (6 * (1402 - σ74c 141 6) - σ74c 141 4).toNat < N_ → ((∀ k_ j_ : Int, ¬ ((k_ = 141 ∧ j_ = 4) ∨ (k_ = 141 ∧ j_ = 5) ∨ (k_ = 141 ∧ j_ = 6) ∨ (k_ = 141 ∧ j_ = 7) ∨ (k_ = 141 ∧ j_ = 8) ∨ (k_ = 141 ∧ j_ = 9) ∨ (k_ = 141 ∧ j_ = 10) ∨ (k_ = 141 ∧ j_ = 42) ∨ (k_ = 141 ∧ j_ = 43) ∨ (k_ = 141 ∧ j_ = 44) ∨ (k_ = 141 ∧ j_ = 45) ∨ (164 ≤ k_ ∧ k_ ≤ 167) ∨ (162 ≤ k_ ∧ k_ ≤ 163) ∨ k_ = 169) → σ74c k_ j_ = σ17 k_ j_)) → (TK σ74c) → (σ74c 141 3 ≤ 600) → (RS r σ74c) → dk_PJ E 74 [(4, 141), (0, d), (0, i)] [] 190 σ74c := by
                intro N74
                induction N74 with
                | zero => intro  σ74c hm; exact absurd hm (Nat.not_lt_zero _)
                | succ N74 ih74 =>
                  intro  σ74c hm74 hF74 hTk h43 hRS
                  have hk1 := hTk.1
                  have hk2 := hTk.2.1
                  have hk3 := hRS.1.2
                  refine dk_aload_n (pc' := 75) hE dX11_rules_74 rfl rfl rfl ?_
                  refine dk_cV (pc' := 78) (as := []) hE lk_X11_250 (ct_X11_isGood l G hGd) dX11_rules_75 rfl is_141 rfl (by decide) (Nat.le_of_ble_eq_true rfl) rfl rfl (fun r24 σ23 hr24 hor24 => ?_)
                  obtain ⟨v25, rfl, hfσ23, hpr24⟩ := hr24
                  have hsσ23 : σ74c = σ23 := (funext (fun k => funext (fun j => hfσ23 k j not_false))).symm
                  subst hsσ23
                  rcases hpr24 with ⟨rfl, hpr24⟩ | ⟨rfl, hpr24⟩
                  · skip
                    refine dk_if_eq (tgt := 95) (pc' := 81) hE dX11_rules_78 (by decide) rfl (fun hc26 => absurd hc26 (by decide)) (fun hc26 => ?_)
                    refine dk_aload_n (pc' := 82) hE dX11_rules_81 rfl rfl rfl ?_
                    refine gf_11_8 (pc' := 85) hE fl_X11_222 dX11_rules_82 is_141 rfl (fun v27 hv27 htv27 hbv27 => ?_)
                    refine dk_if_eq (tgt := 95) (pc' := 88) hE dX11_rules_85 (by decide) rfl (fun hc28 => ?_) (fun hc28 => ?_)
                    · skip
                      refine dk_aload_n (pc' := 96) hE dX11_rules_95 rfl rfl rfl ?_
                      refine dk_cV (pc' := 99) (as := []) hE lk_X11_250 (ct_X11_isGood l G hGd) dX11_rules_96 rfl is_141 rfl (by decide) (Nat.le_of_ble_eq_true rfl) rfl rfl (fun r30 σ29 hr30 hor30 => ?_)
                      obtain ⟨v31, rfl, hfσ29, hpr30⟩ := hr30
                      have hsσ29 : σ74c = σ29 := (funext (fun k => funext (fun j => hfσ29 k j not_false))).symm
                      subst hsσ29
                      rcases hpr30 with ⟨rfl, hpr30⟩ | ⟨rfl, hpr30⟩
                      · skip
                        refine dk_if_ne (tgt := 104) (pc' := 102) hE dX11_rules_99 (by decide) rfl (fun hc32 => ?_) (fun hc32 => absurd hc32 (by decide))
                        refine dk_aload_n (pc' := 105) hE dX11_rules_104 rfl rfl rfl ?_
                        refine gf_11_32 (pc' := 108) (w := 161) hE fl_X11_74 dX11_rules_105 is_141 rfl rfl ?_
                        refine dk_aload_n (pc' := 109) hE dX11_rules_108 rfl rfl rfl ?_
                        refine gf_11_41 (pc' := 112) hE fl_X11_374 dX11_rules_109 is_141 rfl (fun v33 hv33 htv33 hbv33 => ?_)
                        have hq33 : r = v33 := (show v33 = r by rw [hv33, hF74 141 41 (by omega), hfσ17 141 41 (by omega), eσ13, dk_up_n (show ¬ (141 = 141 ∧ 41 = 43) by omega), eσ12, dk_up_n (show ¬ (141 = 141 ∧ 41 = 42) by omega), hF35 141 41 (by omega), hfσ9 141 41 (by omega), hv7]).symm
                        subst hq33
                        clear htv33 hbv33
                        refine dk_iload_n (pc' := 113) hE dX11_rules_112 rfl rfl rfl ?_
                        refine pa_89 (pc' := 114) hE dX11_rules_113 is_161 (by omega) trivial rfl (fun σ34 eσ34 => ?_)
                        refine dk_aload_n (pc' := 115) hE dX11_rules_114 rfl rfl rfl ?_
                        refine dk_dup (pc' := 116) hE dX11_rules_115 (show (4 : Nat) ≠ 3 by decide) rfl ?_
                        refine gf_11_41 (pc' := 119) hE fl_X11_374 dX11_rules_116 is_141 rfl (fun v35 hv35 htv35 hbv35 => ?_)
                        have hq35 : r = v35 := (show v35 = r by rw [hv35, eσ34, dk_up_n (show ¬ (141 = 161 ∧ 41 = r) by omega), hv33]).symm
                        subst hq35
                        clear htv35 hbv35
                        refine dk_iconst (pc' := 120) hE dX11_rules_119 (by decide) rfl ?_
                        obtain ⟨v36, hv36⟩ : ∃ z : Int, z = r + 1 := ⟨_, rfl⟩
                        refine dk_iadd (pc' := 121) hE dX11_rules_120 hv36.symm (by omega) rfl ?_
                        refine pf_11_41 (pc' := 124) hE fl_X11_374 dX11_rules_121 is_141 (by omega) rfl (fun σ37 eσ37 => ?_)
                        have gi38 : MI σ37 := MI_rules hRS (by omega) (by omega) eσ34 eσ37
                        refine dk_aload_n (pc' := 125) hE dX11_rules_124 rfl rfl rfl ?_
                        refine gf_11_41 (pc' := 128) hE fl_X11_374 dX11_rules_125 is_141 rfl (fun v39 hv39 htv39 hbv39 => ?_)
                        have hq39 : v36 = v39 := (show v39 = v36 by rw [hv39, eσ37, dk_up_s]).symm
                        subst hq39
                        clear htv39 hbv39
                        refine dk_iconst (pc' := 129) hE dX11_rules_128 (by decide) rfl ?_
                        obtain ⟨v40, hv40⟩ : ∃ z : Int, z = v36 - 1 := ⟨_, rfl⟩
                        refine dk_isub (pc' := 130) hE dX11_rules_129 hv40.symm (by omega) rfl ?_
                        exact dk_iret (st := []) hE hR dX11_rules_130 ⟨_, rfl, (fun k_ j_ h_ => by rw [eσ37, dk_up_n (show ¬ (k_ = 141 ∧ j_ = 41) from fun q_ => h_ (Or.inr (Or.inr (Or.inr (Or.inr (Or.inr (Or.inr (Or.inr (Or.inr (Or.inr (Or.inl (q_)))))))))))), eσ34, dk_up_n (show ¬ (k_ = 161 ∧ j_ = r) from fun q_ => h_ (Or.inr (Or.inr (Or.inr (Or.inr (Or.inr (Or.inr (Or.inr (Or.inr (Or.inr (Or.inr (Or.inr (Or.inr (Or.inr (Or.inr (Or.inr (dk_wr (lo := 161) (hi := 169) q_.1 (by decide)))))))))))))))))), hF74 k_ j_ (fun w_ => h_ (w_.elim (fun x0_ => Or.inr (Or.inr (Or.inl (x0_)))) (fun y0_ => y0_.elim (fun x1_ => Or.inr (Or.inr (Or.inr (Or.inl (x1_))))) (fun y1_ => y1_.elim (fun x2_ => Or.inr (Or.inr (Or.inr (Or.inr (Or.inl (x2_)))))) (fun y2_ => y2_.elim (fun x3_ => Or.inr (Or.inr (Or.inr (Or.inr (Or.inr (Or.inl (x3_))))))) (fun y3_ => y3_.elim (fun x4_ => Or.inr (Or.inr (Or.inr (Or.inr (Or.inr (Or.inr (Or.inl (x4_)))))))) (fun y4_ => y4_.elim (fun x5_ => Or.inr (Or.inr (Or.inr (Or.inr (Or.inr (Or.inr (Or.inr (Or.inl (x5_))))))))) (fun y5_ => y5_.elim (fun x6_ => Or.inr (Or.inr (Or.inr (Or.inr (Or.inr (Or.inr (Or.inr (Or.inr (Or.inl (x6_)))))))))) (fun y6_ => y6_.elim (fun x7_ => Or.inr (Or.inr (Or.inr (Or.inr (Or.inr (Or.inr (Or.inr (Or.inr (Or.inr (Or.inr (Or.inl (x7_)))))))))))) (fun y7_ => y7_.elim (fun x8_ => Or.inr (Or.inr (Or.inr (Or.inr (Or.inr (Or.inr (Or.inr (Or.inr (Or.inr (Or.inr (Or.inr (Or.inl (x8_))))))))))))) (fun y8_ => y8_.elim (fun x9_ => Or.inr (Or.inr (Or.inr (Or.inr (Or.inr (Or.inr (Or.inr (Or.inr (Or.inr (Or.inr (Or.inr (Or.inr (Or.inl (x9_)))))))))))))) (fun y9_ => y9_.elim (fun x10_ => Or.inr (Or.inr (Or.inr (Or.inr (Or.inr (Or.inr (Or.inr (Or.inr (Or.inr (Or.inr (Or.inr (Or.inr (Or.inr (Or.inl (x10_))))))))))))))) (fun y10_ => y10_.elim (fun x11_ => Or.inr (Or.inr (Or.inr (Or.inr (Or.inr (Or.inr (Or.inr (Or.inr (Or.inr (Or.inr (Or.inr (Or.inr (Or.inr (Or.inr (Or.inr (dk_wrr (lo := 161) (hi := 169) x11_ (by decide) (by decide))))))))))))))))) (fun y11_ => y11_.elim (fun x12_ => Or.inr (Or.inr (Or.inr (Or.inr (Or.inr (Or.inr (Or.inr (Or.inr (Or.inr (Or.inr (Or.inr (Or.inr (Or.inr (Or.inr (Or.inr (dk_wrr (lo := 161) (hi := 169) x12_ (by decide) (by decide))))))))))))))))) (fun y12_ => Or.inr (Or.inr (Or.inr (Or.inr (Or.inr (Or.inr (Or.inr (Or.inr (Or.inr (Or.inr (Or.inr (Or.inr (Or.inr (Or.inr (Or.inr (dk_wr (lo := 161) (hi := 169) y12_ (by decide))))))))))))))))))))))))))))))), hfσ17 k_ j_ (fun w_ => h_ (w_.elim (fun x0_ => Or.inr (Or.inr (Or.inr (Or.inr (Or.inl (x0_)))))) (fun y0_ => y0_.elim (fun x1_ => Or.inr (Or.inr (Or.inr (Or.inr (Or.inr (Or.inl (x1_))))))) (fun y1_ => y1_.elim (fun x2_ => Or.inr (Or.inr (Or.inr (Or.inr (Or.inr (Or.inr (Or.inl (x2_)))))))) (fun y2_ => y2_.elim (fun x3_ => Or.inr (Or.inr (Or.inr (Or.inr (Or.inr (Or.inr (Or.inr (Or.inl (x3_))))))))) (fun y3_ => Or.inr (Or.inr (Or.inr (Or.inr (Or.inr (Or.inr (Or.inr (Or.inr (Or.inl (y3_))))))))))))))), eσ13, dk_up_n (show ¬ (k_ = 141 ∧ j_ = 43) from fun q_ => h_ (Or.inr (Or.inr (Or.inr (Or.inr (Or.inr (Or.inr (Or.inr (Or.inr (Or.inr (Or.inr (Or.inr (Or.inl (q_)))))))))))))), eσ12, dk_up_n (show ¬ (k_ = 141 ∧ j_ = 42) from fun q_ => h_ (Or.inr (Or.inr (Or.inr (Or.inr (Or.inr (Or.inr (Or.inr (Or.inr (Or.inr (Or.inr (Or.inl (q_))))))))))))), hF35 k_ j_ (fun w_ => h_ (Or.inr (Or.inr (Or.inr (Or.inr (Or.inr (Or.inr (Or.inr (Or.inr (Or.inr (Or.inr (Or.inr (Or.inr (Or.inr (Or.inr (Or.inr (dk_wr (lo := 161) (hi := 169) w_ (by decide)))))))))))))))))), hfσ9 k_ j_ (fun w_ => h_ (w_.elim (fun x0_ => Or.inl (x0_)) (fun y0_ => y0_.elim (fun x1_ => Or.inr (Or.inl (x1_))) (fun y1_ => y1_.elim (fun x2_ => Or.inr (Or.inr (Or.inl (x2_)))) (fun y2_ => y2_.elim (fun x3_ => Or.inr (Or.inr (Or.inr (Or.inl (x3_))))) (fun y3_ => y3_.elim (fun x4_ => Or.inr (Or.inr (Or.inr (Or.inr (Or.inr (Or.inl (x4_))))))) (fun y4_ => Or.inr (Or.inr (Or.inr (Or.inr (Or.inr (Or.inr (Or.inr (Or.inr (Or.inr (Or.inr (Or.inr (Or.inr (Or.inr (Or.inr (Or.inl (y4_))))))))))))))))))))))]), gi38⟩
                      · skip
                        refine dk_if_ne (tgt := 104) (pc' := 102) hE dX11_rules_99 (by decide) rfl (fun hc41 => absurd hc41 (by decide)) (fun hc41 => ?_)
                        refine dk_iconst (pc' := 103) hE dX11_rules_102 (by decide) rfl ?_
                        exact dk_iret (st := []) hE hR dX11_rules_103 ⟨_, rfl, (fun k_ j_ h_ => by rw [hF74 k_ j_ (fun w_ => h_ (w_.elim (fun x0_ => Or.inr (Or.inr (Or.inl (x0_)))) (fun y0_ => y0_.elim (fun x1_ => Or.inr (Or.inr (Or.inr (Or.inl (x1_))))) (fun y1_ => y1_.elim (fun x2_ => Or.inr (Or.inr (Or.inr (Or.inr (Or.inl (x2_)))))) (fun y2_ => y2_.elim (fun x3_ => Or.inr (Or.inr (Or.inr (Or.inr (Or.inr (Or.inl (x3_))))))) (fun y3_ => y3_.elim (fun x4_ => Or.inr (Or.inr (Or.inr (Or.inr (Or.inr (Or.inr (Or.inl (x4_)))))))) (fun y4_ => y4_.elim (fun x5_ => Or.inr (Or.inr (Or.inr (Or.inr (Or.inr (Or.inr (Or.inr (Or.inl (x5_))))))))) (fun y5_ => y5_.elim (fun x6_ => Or.inr (Or.inr (Or.inr (Or.inr (Or.inr (Or.inr (Or.inr (Or.inr (Or.inl (x6_)))))))))) (fun y6_ => y6_.elim (fun x7_ => Or.inr (Or.inr (Or.inr (Or.inr (Or.inr (Or.inr (Or.inr (Or.inr (Or.inr (Or.inr (Or.inl (x7_)))))))))))) (fun y7_ => y7_.elim (fun x8_ => Or.inr (Or.inr (Or.inr (Or.inr (Or.inr (Or.inr (Or.inr (Or.inr (Or.inr (Or.inr (Or.inr (Or.inl (x8_))))))))))))) (fun y8_ => y8_.elim (fun x9_ => Or.inr (Or.inr (Or.inr (Or.inr (Or.inr (Or.inr (Or.inr (Or.inr (Or.inr (Or.inr (Or.inr (Or.inr (Or.inl (x9_)))))))))))))) (fun y9_ => y9_.elim (fun x10_ => Or.inr (Or.inr (Or.inr (Or.inr (Or.inr (Or.inr (Or.inr (Or.inr (Or.inr (Or.inr (Or.inr (Or.inr (Or.inr (Or.inl (x10_))))))))))))))) (fun y10_ => y10_.elim (fun x11_ => Or.inr (Or.inr (Or.inr (Or.inr (Or.inr (Or.inr (Or.inr (Or.inr (Or.inr (Or.inr (Or.inr (Or.inr (Or.inr (Or.inr (Or.inr (dk_wrr (lo := 161) (hi := 169) x11_ (by decide) (by decide))))))))))))))))) (fun y11_ => y11_.elim (fun x12_ => Or.inr (Or.inr (Or.inr (Or.inr (Or.inr (Or.inr (Or.inr (Or.inr (Or.inr (Or.inr (Or.inr (Or.inr (Or.inr (Or.inr (Or.inr (dk_wrr (lo := 161) (hi := 169) x12_ (by decide) (by decide))))))))))))))))) (fun y12_ => Or.inr (Or.inr (Or.inr (Or.inr (Or.inr (Or.inr (Or.inr (Or.inr (Or.inr (Or.inr (Or.inr (Or.inr (Or.inr (Or.inr (Or.inr (dk_wr (lo := 161) (hi := 169) y12_ (by decide))))))))))))))))))))))))))))))), hfσ17 k_ j_ (fun w_ => h_ (w_.elim (fun x0_ => Or.inr (Or.inr (Or.inr (Or.inr (Or.inl (x0_)))))) (fun y0_ => y0_.elim (fun x1_ => Or.inr (Or.inr (Or.inr (Or.inr (Or.inr (Or.inl (x1_))))))) (fun y1_ => y1_.elim (fun x2_ => Or.inr (Or.inr (Or.inr (Or.inr (Or.inr (Or.inr (Or.inl (x2_)))))))) (fun y2_ => y2_.elim (fun x3_ => Or.inr (Or.inr (Or.inr (Or.inr (Or.inr (Or.inr (Or.inr (Or.inl (x3_))))))))) (fun y3_ => Or.inr (Or.inr (Or.inr (Or.inr (Or.inr (Or.inr (Or.inr (Or.inr (Or.inl (y3_))))))))))))))), eσ13, dk_up_n (show ¬ (k_ = 141 ∧ j_ = 43) from fun q_ => h_ (Or.inr (Or.inr (Or.inr (Or.inr (Or.inr (Or.inr (Or.inr (Or.inr (Or.inr (Or.inr (Or.inr (Or.inl (q_)))))))))))))), eσ12, dk_up_n (show ¬ (k_ = 141 ∧ j_ = 42) from fun q_ => h_ (Or.inr (Or.inr (Or.inr (Or.inr (Or.inr (Or.inr (Or.inr (Or.inr (Or.inr (Or.inr (Or.inl (q_))))))))))))), hF35 k_ j_ (fun w_ => h_ (Or.inr (Or.inr (Or.inr (Or.inr (Or.inr (Or.inr (Or.inr (Or.inr (Or.inr (Or.inr (Or.inr (Or.inr (Or.inr (Or.inr (Or.inr (dk_wr (lo := 161) (hi := 169) w_ (by decide)))))))))))))))))), hfσ9 k_ j_ (fun w_ => h_ (w_.elim (fun x0_ => Or.inl (x0_)) (fun y0_ => y0_.elim (fun x1_ => Or.inr (Or.inl (x1_))) (fun y1_ => y1_.elim (fun x2_ => Or.inr (Or.inr (Or.inl (x2_)))) (fun y2_ => y2_.elim (fun x3_ => Or.inr (Or.inr (Or.inr (Or.inl (x3_))))) (fun y3_ => y3_.elim (fun x4_ => Or.inr (Or.inr (Or.inr (Or.inr (Or.inr (Or.inl (x4_))))))) (fun y4_ => Or.inr (Or.inr (Or.inr (Or.inr (Or.inr (Or.inr (Or.inr (Or.inr (Or.inr (Or.inr (Or.inr (Or.inr (Or.inr (Or.inr (Or.inl (y4_))))))))))))))))))))))]), hRS.1.1⟩
                    · skip
                      refine dk_aload_n (pc' := 89) hE dX11_rules_88 rfl rfl rfl ?_
                      have hz42 : σ74c 141 3 = σ 141 2 := by rw [hF74 141 3 (by omega), hfσ17 141 3 (by omega), eσ13, dk_up_n (show ¬ (141 = 141 ∧ 3 = 43) by omega), eσ12, dk_up_n (show ¬ (141 = 141 ∧ 3 = 42) by omega), hF35 141 3 (by omega), (hpr10.1).symm]
                      refine dk_cV (pc' := 92) (as := []) hE lk_X11_383 (ct_X11_readRule l G hGd (σ74c 141 42) r) dX11_rules_89 rfl is_141 rfl (by decide) (Nat.le_of_ble_eq_true rfl) ⟨rfl, (hTk), (by omega), (hRS), (by omega), (by omega)⟩ rfl (fun r44 σ43 hr44 hor44 => ?_)
                      obtain ⟨rfl, hfσ43, hpr44⟩ := hr44
                      have H89 := hpr44
                      have hy_ := H89.2.2
                      have hx_ := H89.1.2.2.1
                      have hw_ := H89.1.2.2.2.2
                      have hz_ := H89.1.1
                      refine dk_goto (tgt := 74) hE dX11_rules_92 (by decide) ?_
                      have hz44_141_3 := (show σ43 141 3 = _ by rw [hfσ43 141 3 (by omega)])
                      exact ih74 σ43 (by omega) (fun k_ j_ h_ => by rw [hfσ43 k_ j_ (fun w_ => h_ (w_.elim (fun x0_ => Or.inl (x0_)) (fun y0_ => y0_.elim (fun x1_ => Or.inr (Or.inl (x1_))) (fun y1_ => y1_.elim (fun x2_ => Or.inr (Or.inr (Or.inl (x2_)))) (fun y2_ => y2_.elim (fun x3_ => Or.inr (Or.inr (Or.inr (Or.inl (x3_))))) (fun y3_ => y3_.elim (fun x4_ => Or.inr (Or.inr (Or.inr (Or.inr (Or.inl (x4_)))))) (fun y4_ => y4_.elim (fun x5_ => Or.inr (Or.inr (Or.inr (Or.inr (Or.inr (Or.inl (x5_))))))) (fun y5_ => y5_.elim (fun x6_ => Or.inr (Or.inr (Or.inr (Or.inr (Or.inr (Or.inr (Or.inl (x6_)))))))) (fun y6_ => y6_.elim (fun x7_ => Or.inr (Or.inr (Or.inr (Or.inr (Or.inr (Or.inr (Or.inr (Or.inl (x7_))))))))) (fun y7_ => y7_.elim (fun x8_ => Or.inr (Or.inr (Or.inr (Or.inr (Or.inr (Or.inr (Or.inr (Or.inr (Or.inl (x8_)))))))))) (fun y8_ => y8_.elim (fun x9_ => Or.inr (Or.inr (Or.inr (Or.inr (Or.inr (Or.inr (Or.inr (Or.inr (Or.inr (Or.inl (x9_))))))))))) (fun y9_ => y9_.elim (fun x10_ => Or.inr (Or.inr (Or.inr (Or.inr (Or.inr (Or.inr (Or.inr (Or.inr (Or.inr (Or.inr (Or.inl (x10_)))))))))))) (fun y10_ => y10_.elim (fun x11_ => Or.inr (Or.inr (Or.inr (Or.inr (Or.inr (Or.inr (Or.inr (Or.inr (Or.inr (Or.inr (Or.inr (Or.inl (x11_))))))))))))) (fun y11_ => y11_.elim (fun x12_ => Or.inr (Or.inr (Or.inr (Or.inr (Or.inr (Or.inr (Or.inr (Or.inr (Or.inr (Or.inr (Or.inr (Or.inr (Or.inl (x12_)))))))))))))) (fun y12_ => Or.inr (Or.inr (Or.inr (Or.inr (Or.inr (Or.inr (Or.inr (Or.inr (Or.inr (Or.inr (Or.inr (Or.inr (Or.inr (y12_)))))))))))))))))))))))))))), hF74 k_ j_ (fun w_ => h_ (w_.elim (fun x0_ => Or.inl (x0_)) (fun y0_ => y0_.elim (fun x1_ => Or.inr (Or.inl (x1_))) (fun y1_ => y1_.elim (fun x2_ => Or.inr (Or.inr (Or.inl (x2_)))) (fun y2_ => y2_.elim (fun x3_ => Or.inr (Or.inr (Or.inr (Or.inl (x3_))))) (fun y3_ => y3_.elim (fun x4_ => Or.inr (Or.inr (Or.inr (Or.inr (Or.inl (x4_)))))) (fun y4_ => y4_.elim (fun x5_ => Or.inr (Or.inr (Or.inr (Or.inr (Or.inr (Or.inl (x5_))))))) (fun y5_ => y5_.elim (fun x6_ => Or.inr (Or.inr (Or.inr (Or.inr (Or.inr (Or.inr (Or.inl (x6_)))))))) (fun y6_ => y6_.elim (fun x7_ => Or.inr (Or.inr (Or.inr (Or.inr (Or.inr (Or.inr (Or.inr (Or.inl (x7_))))))))) (fun y7_ => y7_.elim (fun x8_ => Or.inr (Or.inr (Or.inr (Or.inr (Or.inr (Or.inr (Or.inr (Or.inr (Or.inl (x8_)))))))))) (fun y8_ => y8_.elim (fun x9_ => Or.inr (Or.inr (Or.inr (Or.inr (Or.inr (Or.inr (Or.inr (Or.inr (Or.inr (Or.inl (x9_))))))))))) (fun y9_ => y9_.elim (fun x10_ => Or.inr (Or.inr (Or.inr (Or.inr (Or.inr (Or.inr (Or.inr (Or.inr (Or.inr (Or.inr (Or.inl (x10_)))))))))))) (fun y10_ => y10_.elim (fun x11_ => Or.inr (Or.inr (Or.inr (Or.inr (Or.inr (Or.inr (Or.inr (Or.inr (Or.inr (Or.inr (Or.inr (Or.inl (x11_))))))))))))) (fun y11_ => y11_.elim (fun x12_ => Or.inr (Or.inr (Or.inr (Or.inr (Or.inr (Or.inr (Or.inr (Or.inr (Or.inr (Or.inr (Or.inr (Or.inr (Or.inl (x12_)))))))))))))) (fun y12_ => Or.inr (Or.inr (Or.inr (Or.inr (Or.inr (Or.inr (Or.inr (Or.inr (Or.inr (Or.inr (Or.inr (Or.inr (Or.inr (y12_))))))))))))))))))))))))))))]) (by first | exact H89.1.2.1 | exact H71.2.1) (by omega) (by first | exact H89.2.1 | exact RS_init hMI71 (by omega) (by omega) (by omega) (by omega) (by omega) h169_)
                  · skip
                    refine dk_if_eq (tgt := 95) (pc' := 81) hE dX11_rules_78 (by decide) rfl (fun hc48 => ?_) (fun hc48 => absurd hc48 (by decide))
                    refine dk_aload_n (pc' := 96) hE dX11_rules_95 rfl rfl rfl ?_
                    refine dk_cV (pc' := 99) (as := []) hE lk_X11_250 (ct_X11_isGood l G hGd) dX11_rules_96 rfl is_141 rfl (by decide) (Nat.le_of_ble_eq_true rfl) rfl rfl (fun r50 σ49 hr50 hor50 => ?_)
                    obtain ⟨v51, rfl, hfσ49, hpr50⟩ := hr50
                    have hsσ49 : σ74c = σ49 := (funext (fun k => funext (fun j => hfσ49 k j not_false))).symm
                    subst hsσ49
                    rcases hpr50 with ⟨rfl, hpr50⟩ | ⟨rfl, hpr50⟩
                    · skip
                      refine dk_if_ne (tgt := 104) (pc' := 102) hE dX11_rules_99 (by decide) rfl (fun hc52 => ?_) (fun hc52 => absurd hc52 (by decide))
                      refine dk_aload_n (pc' := 105) hE dX11_rules_104 rfl rfl rfl ?_
                      refine gf_11_32 (pc' := 108) (w := 161) hE fl_X11_74 dX11_rules_105 is_141 rfl rfl ?_
                      refine dk_aload_n (pc' := 109) hE dX11_rules_108 rfl rfl rfl ?_
                      refine gf_11_41 (pc' := 112) hE fl_X11_374 dX11_rules_109 is_141 rfl (fun v53 hv53 htv53 hbv53 => ?_)
                      have hq53 : r = v53 := (show v53 = r by rw [hv53, hF74 141 41 (by omega), hfσ17 141 41 (by omega), eσ13, dk_up_n (show ¬ (141 = 141 ∧ 41 = 43) by omega), eσ12, dk_up_n (show ¬ (141 = 141 ∧ 41 = 42) by omega), hF35 141 41 (by omega), hfσ9 141 41 (by omega), hv7]).symm
                      subst hq53
                      clear htv53 hbv53
                      refine dk_iload_n (pc' := 113) hE dX11_rules_112 rfl rfl rfl ?_
                      refine pa_89 (pc' := 114) hE dX11_rules_113 is_161 (by omega) trivial rfl (fun σ54 eσ54 => ?_)
                      refine dk_aload_n (pc' := 115) hE dX11_rules_114 rfl rfl rfl ?_
                      refine dk_dup (pc' := 116) hE dX11_rules_115 (show (4 : Nat) ≠ 3 by decide) rfl ?_
                      refine gf_11_41 (pc' := 119) hE fl_X11_374 dX11_rules_116 is_141 rfl (fun v55 hv55 htv55 hbv55 => ?_)
                      have hq55 : r = v55 := (show v55 = r by rw [hv55, eσ54, dk_up_n (show ¬ (141 = 161 ∧ 41 = r) by omega), hv53]).symm
                      subst hq55
                      clear htv55 hbv55
                      refine dk_iconst (pc' := 120) hE dX11_rules_119 (by decide) rfl ?_
                      obtain ⟨v56, hv56⟩ : ∃ z : Int, z = r + 1 := ⟨_, rfl⟩
                      refine dk_iadd (pc' := 121) hE dX11_rules_120 hv56.symm (by omega) rfl ?_
                      refine pf_11_41 (pc' := 124) hE fl_X11_374 dX11_rules_121 is_141 (by omega) rfl (fun σ57 eσ57 => ?_)
                      have gi58 : MI σ57 := MI_rules hRS (by omega) (by omega) eσ54 eσ57
                      refine dk_aload_n (pc' := 125) hE dX11_rules_124 rfl rfl rfl ?_
                      refine gf_11_41 (pc' := 128) hE fl_X11_374 dX11_rules_125 is_141 rfl (fun v59 hv59 htv59 hbv59 => ?_)
                      have hq59 : v56 = v59 := (show v59 = v56 by rw [hv59, eσ57, dk_up_s]).symm
                      subst hq59
                      clear htv59 hbv59
                      refine dk_iconst (pc' := 129) hE dX11_rules_128 (by decide) rfl ?_
                      obtain ⟨v60, hv60⟩ : ∃ z : Int, z = v56 - 1 := ⟨_, rfl⟩
                      refine dk_isub (pc' := 130) hE dX11_rules_129 hv60.symm (by omega) rfl ?_
                      exact dk_iret (st := []) hE hR dX11_rules_130 ⟨_, rfl, (fun k_ j_ h_ => by rw [eσ57, dk_up_n (show ¬ (k_ = 141 ∧ j_ = 41) from fun q_ => h_ (Or.inr (Or.inr (Or.inr (Or.inr (Or.inr (Or.inr (Or.inr (Or.inr (Or.inr (Or.inl (q_)))))))))))), eσ54, dk_up_n (show ¬ (k_ = 161 ∧ j_ = r) from fun q_ => h_ (Or.inr (Or.inr (Or.inr (Or.inr (Or.inr (Or.inr (Or.inr (Or.inr (Or.inr (Or.inr (Or.inr (Or.inr (Or.inr (Or.inr (Or.inr (dk_wr (lo := 161) (hi := 169) q_.1 (by decide)))))))))))))))))), hF74 k_ j_ (fun w_ => h_ (w_.elim (fun x0_ => Or.inr (Or.inr (Or.inl (x0_)))) (fun y0_ => y0_.elim (fun x1_ => Or.inr (Or.inr (Or.inr (Or.inl (x1_))))) (fun y1_ => y1_.elim (fun x2_ => Or.inr (Or.inr (Or.inr (Or.inr (Or.inl (x2_)))))) (fun y2_ => y2_.elim (fun x3_ => Or.inr (Or.inr (Or.inr (Or.inr (Or.inr (Or.inl (x3_))))))) (fun y3_ => y3_.elim (fun x4_ => Or.inr (Or.inr (Or.inr (Or.inr (Or.inr (Or.inr (Or.inl (x4_)))))))) (fun y4_ => y4_.elim (fun x5_ => Or.inr (Or.inr (Or.inr (Or.inr (Or.inr (Or.inr (Or.inr (Or.inl (x5_))))))))) (fun y5_ => y5_.elim (fun x6_ => Or.inr (Or.inr (Or.inr (Or.inr (Or.inr (Or.inr (Or.inr (Or.inr (Or.inl (x6_)))))))))) (fun y6_ => y6_.elim (fun x7_ => Or.inr (Or.inr (Or.inr (Or.inr (Or.inr (Or.inr (Or.inr (Or.inr (Or.inr (Or.inr (Or.inl (x7_)))))))))))) (fun y7_ => y7_.elim (fun x8_ => Or.inr (Or.inr (Or.inr (Or.inr (Or.inr (Or.inr (Or.inr (Or.inr (Or.inr (Or.inr (Or.inr (Or.inl (x8_))))))))))))) (fun y8_ => y8_.elim (fun x9_ => Or.inr (Or.inr (Or.inr (Or.inr (Or.inr (Or.inr (Or.inr (Or.inr (Or.inr (Or.inr (Or.inr (Or.inr (Or.inl (x9_)))))))))))))) (fun y9_ => y9_.elim (fun x10_ => Or.inr (Or.inr (Or.inr (Or.inr (Or.inr (Or.inr (Or.inr (Or.inr (Or.inr (Or.inr (Or.inr (Or.inr (Or.inr (Or.inl (x10_))))))))))))))) (fun y10_ => y10_.elim (fun x11_ => Or.inr (Or.inr (Or.inr (Or.inr (Or.inr (Or.inr (Or.inr (Or.inr (Or.inr (Or.inr (Or.inr (Or.inr (Or.inr (Or.inr (Or.inr (dk_wrr (lo := 161) (hi := 169) x11_ (by decide) (by decide))))))))))))))))) (fun y11_ => y11_.elim (fun x12_ => Or.inr (Or.inr (Or.inr (Or.inr (Or.inr (Or.inr (Or.inr (Or.inr (Or.inr (Or.inr (Or.inr (Or.inr (Or.inr (Or.inr (Or.inr (dk_wrr (lo := 161) (hi := 169) x12_ (by decide) (by decide))))))))))))))))) (fun y12_ => Or.inr (Or.inr (Or.inr (Or.inr (Or.inr (Or.inr (Or.inr (Or.inr (Or.inr (Or.inr (Or.inr (Or.inr (Or.inr (Or.inr (Or.inr (dk_wr (lo := 161) (hi := 169) y12_ (by decide))))))))))))))))))))))))))))))), hfσ17 k_ j_ (fun w_ => h_ (w_.elim (fun x0_ => Or.inr (Or.inr (Or.inr (Or.inr (Or.inl (x0_)))))) (fun y0_ => y0_.elim (fun x1_ => Or.inr (Or.inr (Or.inr (Or.inr (Or.inr (Or.inl (x1_))))))) (fun y1_ => y1_.elim (fun x2_ => Or.inr (Or.inr (Or.inr (Or.inr (Or.inr (Or.inr (Or.inl (x2_)))))))) (fun y2_ => y2_.elim (fun x3_ => Or.inr (Or.inr (Or.inr (Or.inr (Or.inr (Or.inr (Or.inr (Or.inl (x3_))))))))) (fun y3_ => Or.inr (Or.inr (Or.inr (Or.inr (Or.inr (Or.inr (Or.inr (Or.inr (Or.inl (y3_))))))))))))))), eσ13, dk_up_n (show ¬ (k_ = 141 ∧ j_ = 43) from fun q_ => h_ (Or.inr (Or.inr (Or.inr (Or.inr (Or.inr (Or.inr (Or.inr (Or.inr (Or.inr (Or.inr (Or.inr (Or.inl (q_)))))))))))))), eσ12, dk_up_n (show ¬ (k_ = 141 ∧ j_ = 42) from fun q_ => h_ (Or.inr (Or.inr (Or.inr (Or.inr (Or.inr (Or.inr (Or.inr (Or.inr (Or.inr (Or.inr (Or.inl (q_))))))))))))), hF35 k_ j_ (fun w_ => h_ (Or.inr (Or.inr (Or.inr (Or.inr (Or.inr (Or.inr (Or.inr (Or.inr (Or.inr (Or.inr (Or.inr (Or.inr (Or.inr (Or.inr (Or.inr (dk_wr (lo := 161) (hi := 169) w_ (by decide)))))))))))))))))), hfσ9 k_ j_ (fun w_ => h_ (w_.elim (fun x0_ => Or.inl (x0_)) (fun y0_ => y0_.elim (fun x1_ => Or.inr (Or.inl (x1_))) (fun y1_ => y1_.elim (fun x2_ => Or.inr (Or.inr (Or.inl (x2_)))) (fun y2_ => y2_.elim (fun x3_ => Or.inr (Or.inr (Or.inr (Or.inl (x3_))))) (fun y3_ => y3_.elim (fun x4_ => Or.inr (Or.inr (Or.inr (Or.inr (Or.inr (Or.inl (x4_))))))) (fun y4_ => Or.inr (Or.inr (Or.inr (Or.inr (Or.inr (Or.inr (Or.inr (Or.inr (Or.inr (Or.inr (Or.inr (Or.inr (Or.inr (Or.inr (Or.inl (y4_))))))))))))))))))))))]), gi58⟩
                    · skip
                      refine dk_if_ne (tgt := 104) (pc' := 102) hE dX11_rules_99 (by decide) rfl (fun hc61 => absurd hc61 (by decide)) (fun hc61 => ?_)
                      refine dk_iconst (pc' := 103) hE dX11_rules_102 (by decide) rfl ?_
                      exact dk_iret (st := []) hE hR dX11_rules_103 ⟨_, rfl, (fun k_ j_ h_ => by rw [hF74 k_ j_ (fun w_ => h_ (w_.elim (fun x0_ => Or.inr (Or.inr (Or.inl (x0_)))) (fun y0_ => y0_.elim (fun x1_ => Or.inr (Or.inr (Or.inr (Or.inl (x1_))))) (fun y1_ => y1_.elim (fun x2_ => Or.inr (Or.inr (Or.inr (Or.inr (Or.inl (x2_)))))) (fun y2_ => y2_.elim (fun x3_ => Or.inr (Or.inr (Or.inr (Or.inr (Or.inr (Or.inl (x3_))))))) (fun y3_ => y3_.elim (fun x4_ => Or.inr (Or.inr (Or.inr (Or.inr (Or.inr (Or.inr (Or.inl (x4_)))))))) (fun y4_ => y4_.elim (fun x5_ => Or.inr (Or.inr (Or.inr (Or.inr (Or.inr (Or.inr (Or.inr (Or.inl (x5_))))))))) (fun y5_ => y5_.elim (fun x6_ => Or.inr (Or.inr (Or.inr (Or.inr (Or.inr (Or.inr (Or.inr (Or.inr (Or.inl (x6_)))))))))) (fun y6_ => y6_.elim (fun x7_ => Or.inr (Or.inr (Or.inr (Or.inr (Or.inr (Or.inr (Or.inr (Or.inr (Or.inr (Or.inr (Or.inl (x7_)))))))))))) (fun y7_ => y7_.elim (fun x8_ => Or.inr (Or.inr (Or.inr (Or.inr (Or.inr (Or.inr (Or.inr (Or.inr (Or.inr (Or.inr (Or.inr (Or.inl (x8_))))))))))))) (fun y8_ => y8_.elim (fun x9_ => Or.inr (Or.inr (Or.inr (Or.inr (Or.inr (Or.inr (Or.inr (Or.inr (Or.inr (Or.inr (Or.inr (Or.inr (Or.inl (x9_)))))))))))))) (fun y9_ => y9_.elim (fun x10_ => Or.inr (Or.inr (Or.inr (Or.inr (Or.inr (Or.inr (Or.inr (Or.inr (Or.inr (Or.inr (Or.inr (Or.inr (Or.inr (Or.inl (x10_))))))))))))))) (fun y10_ => y10_.elim (fun x11_ => Or.inr (Or.inr (Or.inr (Or.inr (Or.inr (Or.inr (Or.inr (Or.inr (Or.inr (Or.inr (Or.inr (Or.inr (Or.inr (Or.inr (Or.inr (dk_wrr (lo := 161) (hi := 169) x11_ (by decide) (by decide))))))))))))))))) (fun y11_ => y11_.elim (fun x12_ => Or.inr (Or.inr (Or.inr (Or.inr (Or.inr (Or.inr (Or.inr (Or.inr (Or.inr (Or.inr (Or.inr (Or.inr (Or.inr (Or.inr (Or.inr (dk_wrr (lo := 161) (hi := 169) x12_ (by decide) (by decide))))))))))))))))) (fun y12_ => Or.inr (Or.inr (Or.inr (Or.inr (Or.inr (Or.inr (Or.inr (Or.inr (Or.inr (Or.inr (Or.inr (Or.inr (Or.inr (Or.inr (Or.inr (dk_wr (lo := 161) (hi := 169) y12_ (by decide))))))))))))))))))))))))))))))), hfσ17 k_ j_ (fun w_ => h_ (w_.elim (fun x0_ => Or.inr (Or.inr (Or.inr (Or.inr (Or.inl (x0_)))))) (fun y0_ => y0_.elim (fun x1_ => Or.inr (Or.inr (Or.inr (Or.inr (Or.inr (Or.inl (x1_))))))) (fun y1_ => y1_.elim (fun x2_ => Or.inr (Or.inr (Or.inr (Or.inr (Or.inr (Or.inr (Or.inl (x2_)))))))) (fun y2_ => y2_.elim (fun x3_ => Or.inr (Or.inr (Or.inr (Or.inr (Or.inr (Or.inr (Or.inr (Or.inl (x3_))))))))) (fun y3_ => Or.inr (Or.inr (Or.inr (Or.inr (Or.inr (Or.inr (Or.inr (Or.inr (Or.inl (y3_))))))))))))))), eσ13, dk_up_n (show ¬ (k_ = 141 ∧ j_ = 43) from fun q_ => h_ (Or.inr (Or.inr (Or.inr (Or.inr (Or.inr (Or.inr (Or.inr (Or.inr (Or.inr (Or.inr (Or.inr (Or.inl (q_)))))))))))))), eσ12, dk_up_n (show ¬ (k_ = 141 ∧ j_ = 42) from fun q_ => h_ (Or.inr (Or.inr (Or.inr (Or.inr (Or.inr (Or.inr (Or.inr (Or.inr (Or.inr (Or.inr (Or.inl (q_))))))))))))), hF35 k_ j_ (fun w_ => h_ (Or.inr (Or.inr (Or.inr (Or.inr (Or.inr (Or.inr (Or.inr (Or.inr (Or.inr (Or.inr (Or.inr (Or.inr (Or.inr (Or.inr (Or.inr (dk_wr (lo := 161) (hi := 169) w_ (by decide)))))))))))))))))), hfσ9 k_ j_ (fun w_ => h_ (w_.elim (fun x0_ => Or.inl (x0_)) (fun y0_ => y0_.elim (fun x1_ => Or.inr (Or.inl (x1_))) (fun y1_ => y1_.elim (fun x2_ => Or.inr (Or.inr (Or.inl (x2_)))) (fun y2_ => y2_.elim (fun x3_ => Or.inr (Or.inr (Or.inr (Or.inl (x3_))))) (fun y3_ => y3_.elim (fun x4_ => Or.inr (Or.inr (Or.inr (Or.inr (Or.inr (Or.inl (x4_))))))) (fun y4_ => Or.inr (Or.inr (Or.inr (Or.inr (Or.inr (Or.inr (Or.inr (Or.inr (Or.inr (Or.inr (Or.inr (Or.inr (Or.inr (Or.inr (Or.inl (y4_))))))))))))))))))))))]), hRS.1.1⟩
              have hz62 : σ17 141 4 = 0 := by rw [hfσ17 141 4 (by omega), eσ13, dk_up_n (show ¬ (141 = 141 ∧ 4 = 43) by omega), eσ12, dk_up_n (show ¬ (141 = 141 ∧ 4 = 42) by omega), hF35 141 4 (by omega), (hpr10.2.2.1).symm]
              exact lp74 _ σ17 (Nat.lt_succ_self _) (fun k_ j_ h_ => rfl) (by first | exact H89.1.2.1 | exact H71.2.1) (by omega) (by first | exact H89.2.1 | exact RS_init hMI71 (by omega) (by omega) (by omega) (by omega) (by omega) h169_)
            · skip
              refine dk_aload_n (pc' := 41) hE dX11_rules_40 rfl rfl rfl ?_
              refine gf_11_40 (pc' := 44) (w := 169) hE fl_X11_98 dX11_rules_41 is_141 rfl rfl ?_
              refine dk_iconst (pc' := 45) hE dX11_rules_44 (by decide) rfl ?_
              refine dk_aload_n (pc' := 46) hE dX11_rules_45 rfl rfl rfl ?_
              refine gf_11_41 (pc' := 49) hE fl_X11_374 dX11_rules_46 is_141 rfl (fun v66 hv66 htv66 hbv66 => ?_)
              have hq66 : r = v66 := (show v66 = r by rw [hv66, hF35 141 41 (by omega), hfσ9 141 41 (by omega), hv7]).symm
              subst hq66
              clear htv66 hbv66
              obtain ⟨v67, hv67⟩ : ∃ z : Int, z = 3 * r := ⟨_, rfl⟩
              refine dk_imul (pc' := 50) hE dX11_rules_49 hv67.symm (by omega) rfl ?_
              refine dk_iload_n (pc' := 51) hE dX11_rules_50 rfl rfl rfl ?_
              obtain ⟨v68, hv68⟩ : ∃ z : Int, z = v67 + i := ⟨_, rfl⟩
              refine dk_iadd (pc' := 52) hE dX11_rules_51 hv68.symm (by omega) rfl ?_
              refine dk_iconst (pc' := 53) hE dX11_rules_52 (by decide) rfl ?_
              refine pa_97 (pc' := 54) hE dX11_rules_53 is_169 (by omega) (by omega) trivial rfl (fun σ69 eσ69 => ?_)
              have gi70 : MI σ69 := MI_ru hG35 (fun k_ j_ h1_ h2_ h3_ => by rw [eσ69, dk_up_n (by omega)])
              obtain ⟨v71, hv71⟩ : ∃ z : Int, z = i + 1 := ⟨_, rfl⟩
              refine dk_iinc (pc' := 57) (ls' := [(4, 141), (0, d), (0, v71)]) hE dX11_rules_54 rfl hv71.symm (by omega) rfl (by decide) rfl ?_
              refine dk_goto (tgt := 35) hE dX11_rules_57 (by decide) ?_
              exact ih35 v71 σ69 (by omega) (fun k_ j_ h_ => by rw [eσ69, dk_up_n (show ¬ (k_ = 169 ∧ j_ = v68) from fun q_ => h_ (q_.1)), hF35 k_ j_ (fun w_ => h_ (w_))]) gi70 (by omega) (fun n_ a_ b_ => by first | (exfalso; omega) | exact (if c_ : n_ < i then (by rw [eσ69, dk_up_n (by omega)]; exact h169 n_ a_ c_) else (by rw [eσ69, show 3 * r + n_ = v68 by omega, dk_up_s])))
        have gi72 : MI σ9 := MI_fr hG (fun k_ j_ h_ => by rw [hfσ9 k_ j_ (fpw295_764100137 k_ j_ h_)])
        exact lp35 _ 0 σ9 (Nat.lt_succ_self _) (fun k_ j_ h_ => rfl) gi72 (by omega) (fun n_ a_ b_ => by first | (exfalso; omega) | exact (if c_ : n_ < i then (by rw [rfl, dk_up_n (by omega)]; exact h169 n_ a_ c_) else (by rw [rfl, show 3 * r + n_ = 0 by omega, dk_up_s])))
      · skip
        refine dk_bipush (pc' := 28) hE dX11_rules_26 (by decide) rfl ?_
        exact dk_iret (st := []) hE hR dX11_rules_28 ⟨_, rfl, (fun k_ j_ h_ => rfl), hG⟩
    · skip
      refine dk_if_eq (tgt := 26) (pc' := 17) hE dX11_rules_14 (by decide) rfl (fun hc73 => ?_) (fun hc73 => absurd hc73 (by decide))
      refine dk_bipush (pc' := 28) hE dX11_rules_26 (by decide) rfl ?_
      exact dk_iret (st := []) hE hR dX11_rules_28 ⟨_, rfl, (fun k_ j_ h_ => rfl), hG⟩
