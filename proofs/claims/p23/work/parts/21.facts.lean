set_option maxHeartbeats 4000000 in
set_option maxRecDepth 20000 in
theorem ct_X11_tell (l : Launch) (G : dkG) (hGd : dk_Gd G) (a b c d : Int) : dk_Ct l G dk_Ty yX11_tell cX11_tell 5 (some .int) 1 190 190 (fun av σ => av = [(4, 141), (0, a), (0, b), (0, c), (0, d)] ∧ (MI σ) ∧ (0 ≤ a ∧ a ≤ 4) ∧ (0 ≤ c ∧ c ≤ 999) ∧ (0 ≤ d ∧ d ≤ 999) ∧ ((a = 1 → 0 ≤ c ∧ c ≤ 11) ∧ (a = 4 → 1 ≤ c ∧ c ≤ 32))) (fun _ σ r_ σ' => ∃ z : Int, r_ = some (0, z) ∧ (∀ k_ j_ : Int, ¬ ((k_ = 141 ∧ j_ = 53) ∨ (170 ≤ k_ ∧ k_ ≤ 175)) → σ' k_ j_ = σ k_ j_) ∧ (dk_i32 z ∧ MI σ')) := by
  refine dk_enter hGd (by decide) (fun av σ hpre hok => ?_)
  obtain ⟨rfl, hG, ha, hc, hd, hk⟩ := hpre
  refine ⟨Nat.le_of_ble_eq_true rfl, fun E hE hR _ => ?_⟩
  have hi_a : dk_i32 a := dk_oki (hok _ (by simp))
  have hi_b : dk_i32 b := dk_oki (hok _ (by simp))
  have hi_c : dk_i32 c := dk_oki (hok _ (by simp))
  have hi_d : dk_i32 d := dk_oki (hok _ (by simp))
  show dk_PJ E 0 [(4, 141), (0, a), (0, b), (0, c), (0, d)] [] 190 σ
  refine dk_aload_n (pc' := 1) hE dX11_tell_0 rfl rfl rfl ?_
  refine gf_11_53 (pc' := 4) hE fl_X11_275 dX11_tell_1 is_141 rfl (fun v1 hv1 htv1 hbv1 => ?_)
  refine dk_sipush (pc' := 7) hE dX11_tell_4 (by decide) rfl ?_
  refine dk_icmp_ne (tgt := 12) (pc' := 10) hE dX11_tell_7 (by decide) rfl (fun hc2 => ?_) (fun hc2 => ?_)
  · skip
    refine dk_aload_n (pc' := 13) hE dX11_tell_12 rfl rfl rfl ?_
    refine gf_11_46 (pc' := 16) (w := 170) hE fl_X11_101 dX11_tell_13 is_141 rfl rfl ?_
    refine dk_aload_n (pc' := 17) hE dX11_tell_16 rfl rfl rfl ?_
    refine gf_11_53 (pc' := 20) hE fl_X11_275 dX11_tell_17 is_141 rfl (fun v3 hv3 htv3 hbv3 => ?_)
    have hq3 : v1 = v3 := (show v3 = v1 by rw [hv3, hv1]).symm
    subst hq3
    clear htv3 hbv3
    refine dk_iload_n (pc' := 21) hE dX11_tell_20 rfl rfl rfl ?_
    refine pa_98 (pc' := 22) hE dX11_tell_21 is_170 (by omega) (by omega) rfl (fun σ4 eσ4 => ?_)
    refine dk_aload_n (pc' := 23) hE dX11_tell_22 rfl rfl rfl ?_
    refine gf_11_47 (pc' := 26) (w := 171) hE fl_X11_104 dX11_tell_23 is_141 rfl rfl ?_
    refine dk_aload_n (pc' := 27) hE dX11_tell_26 rfl rfl rfl ?_
    refine gf_11_53 (pc' := 30) hE fl_X11_275 dX11_tell_27 is_141 rfl (fun v5 hv5 htv5 hbv5 => ?_)
    have hq5 : v1 = v5 := (show v5 = v1 by rw [hv5, eσ4, dk_up_n (show ¬ (141 = 170 ∧ 53 = v1) by omega), hv3]).symm
    subst hq5
    clear htv5 hbv5
    refine dk_iload_n (pc' := 31) hE dX11_tell_30 rfl rfl rfl ?_
    refine pa_99 (pc' := 32) hE dX11_tell_31 is_171 (by omega) trivial rfl (fun σ6 eσ6 => ?_)
    refine dk_aload_n (pc' := 33) hE dX11_tell_32 rfl rfl rfl ?_
    refine gf_11_48 (pc' := 36) (w := 172) hE fl_X11_107 dX11_tell_33 is_141 rfl rfl ?_
    refine dk_aload_n (pc' := 37) hE dX11_tell_36 rfl rfl rfl ?_
    refine gf_11_53 (pc' := 40) hE fl_X11_275 dX11_tell_37 is_141 rfl (fun v7 hv7 htv7 hbv7 => ?_)
    have hq7 : v1 = v7 := (show v7 = v1 by rw [hv7, eσ6, dk_up_n (show ¬ (141 = 171 ∧ 53 = v1) by omega), hv5]).symm
    subst hq7
    clear htv7 hbv7
    refine dk_iload_n (pc' := 41) hE dX11_tell_40 rfl rfl rfl ?_
    refine pa_100 (pc' := 42) hE dX11_tell_41 is_172 (by omega) (by omega) rfl (fun σ8 eσ8 => ?_)
    refine dk_aload_n (pc' := 43) hE dX11_tell_42 rfl rfl rfl ?_
    refine gf_11_49 (pc' := 46) (w := 173) hE fl_X11_110 dX11_tell_43 is_141 rfl rfl ?_
    refine dk_aload_n (pc' := 47) hE dX11_tell_46 rfl rfl rfl ?_
    refine gf_11_53 (pc' := 50) hE fl_X11_275 dX11_tell_47 is_141 rfl (fun v9 hv9 htv9 hbv9 => ?_)
    have hq9 : v1 = v9 := (show v9 = v1 by rw [hv9, eσ8, dk_up_n (show ¬ (141 = 172 ∧ 53 = v1) by omega), hv7]).symm
    subst hq9
    clear htv9 hbv9
    refine dk_iload (pc' := 52) hE dX11_tell_50 rfl rfl ?_
    refine pa_101 (pc' := 53) hE dX11_tell_52 is_173 (by omega) (by omega) rfl (fun σ10 eσ10 => ?_)
    refine dk_aload_n (pc' := 54) hE dX11_tell_53 rfl rfl rfl ?_
    refine gf_11_50 (pc' := 57) (w := 174) hE fl_X11_113 dX11_tell_54 is_141 rfl rfl ?_
    refine dk_aload_n (pc' := 58) hE dX11_tell_57 rfl rfl rfl ?_
    refine gf_11_53 (pc' := 61) hE fl_X11_275 dX11_tell_58 is_141 rfl (fun v11 hv11 htv11 hbv11 => ?_)
    have hq11 : v1 = v11 := (show v11 = v1 by rw [hv11, eσ10, dk_up_n (show ¬ (141 = 173 ∧ 53 = v1) by omega), hv9]).symm
    subst hq11
    clear htv11 hbv11
    refine dk_aload_n (pc' := 62) hE dX11_tell_61 rfl rfl rfl ?_
    refine gf_11_54 (pc' := 65) hE fl_X11_419 dX11_tell_62 is_141 rfl (fun v12 hv12 htv12 hbv12 => ?_)
    refine pa_102 (pc' := 66) hE dX11_tell_65 is_174 (by omega) trivial rfl (fun σ13 eσ13 => ?_)
    refine dk_aload_n (pc' := 67) hE dX11_tell_66 rfl rfl rfl ?_
    refine gf_11_51 (pc' := 70) (w := 175) hE fl_X11_116 dX11_tell_67 is_141 rfl rfl ?_
    refine dk_aload_n (pc' := 71) hE dX11_tell_70 rfl rfl rfl ?_
    refine gf_11_53 (pc' := 74) hE fl_X11_275 dX11_tell_71 is_141 rfl (fun v14 hv14 htv14 hbv14 => ?_)
    have hq14 : v1 = v14 := (show v14 = v1 by rw [hv14, eσ13, dk_up_n (show ¬ (141 = 174 ∧ 53 = v1) by omega), hv11]).symm
    subst hq14
    clear htv14 hbv14
    refine dk_iconst (pc' := 75) hE dX11_tell_74 (by decide) rfl ?_
    refine pa_103 (pc' := 76) hE dX11_tell_75 is_175 (by omega) trivial rfl (fun σ15 eσ15 => ?_)
    refine dk_aload_n (pc' := 77) hE dX11_tell_76 rfl rfl rfl ?_
    refine dk_dup (pc' := 78) hE dX11_tell_77 (show (4 : Nat) ≠ 3 by decide) rfl ?_
    refine gf_11_53 (pc' := 81) hE fl_X11_275 dX11_tell_78 is_141 rfl (fun v16 hv16 htv16 hbv16 => ?_)
    have hq16 : v1 = v16 := (show v16 = v1 by rw [hv16, eσ15, dk_up_n (show ¬ (141 = 175 ∧ 53 = v1) by omega), hv14]).symm
    subst hq16
    clear htv16 hbv16
    refine dk_iconst (pc' := 82) hE dX11_tell_81 (by decide) rfl ?_
    obtain ⟨v17, hv17⟩ : ∃ z : Int, z = v1 + 1 := ⟨_, rfl⟩
    refine dk_iadd (pc' := 83) hE dX11_tell_82 hv17.symm (by omega) rfl ?_
    refine pf_11_53 (pc' := 86) hE fl_X11_275 dX11_tell_83 is_141 (by omega) rfl (fun σ18 eσ18 => ?_)
    refine dk_aload_n (pc' := 87) hE dX11_tell_86 rfl rfl rfl ?_
    refine gf_11_53 (pc' := 90) hE fl_X11_275 dX11_tell_87 is_141 rfl (fun v19 hv19 htv19 hbv19 => ?_)
    have hq19 : v17 = v19 := (show v19 = v17 by rw [hv19, eσ18, dk_up_s]).symm
    subst hq19
    clear htv19 hbv19
    have gi20 : MI σ18 := MI_tell hG (by omega) hk (by omega) eσ4 eσ6 eσ8 eσ10 eσ13 eσ15 eσ18
    refine dk_iconst (pc' := 91) hE dX11_tell_90 (by decide) rfl ?_
    obtain ⟨v21, hv21⟩ : ∃ z : Int, z = v17 - 1 := ⟨_, rfl⟩
    refine dk_isub (pc' := 92) hE dX11_tell_91 hv21.symm (by omega) rfl ?_
    exact dk_iret (st := []) hE hR dX11_tell_92 ⟨_, rfl, (fun k_ j_ h_ => by rw [eσ18, dk_up_n (show ¬ (k_ = 141 ∧ j_ = 53) from fun q_ => h_ (Or.inl (q_))), eσ15, dk_up_n (show ¬ (k_ = 175 ∧ j_ = v1) from fun q_ => h_ (Or.inr (dk_wr (lo := 170) (hi := 175) q_.1 (by decide)))), eσ13, dk_up_n (show ¬ (k_ = 174 ∧ j_ = v1) from fun q_ => h_ (Or.inr (dk_wr (lo := 170) (hi := 175) q_.1 (by decide)))), eσ10, dk_up_n (show ¬ (k_ = 173 ∧ j_ = v1) from fun q_ => h_ (Or.inr (dk_wr (lo := 170) (hi := 175) q_.1 (by decide)))), eσ8, dk_up_n (show ¬ (k_ = 172 ∧ j_ = v1) from fun q_ => h_ (Or.inr (dk_wr (lo := 170) (hi := 175) q_.1 (by decide)))), eσ6, dk_up_n (show ¬ (k_ = 171 ∧ j_ = v1) from fun q_ => h_ (Or.inr (dk_wr (lo := 170) (hi := 175) q_.1 (by decide)))), eσ4, dk_up_n (show ¬ (k_ = 170 ∧ j_ = v1) from fun q_ => h_ (Or.inr (dk_wr (lo := 170) (hi := 175) q_.1 (by decide))))]), ⟨by omega, gi20⟩⟩
  · skip
    refine dk_iconst (pc' := 11) hE dX11_tell_10 (by decide) rfl ?_
    exact dk_iret (st := []) hE hR dX11_tell_11 ⟨_, rfl, (fun k_ j_ h_ => rfl), ⟨by omega, hG⟩⟩
set_option maxHeartbeats 4000000 in
set_option maxRecDepth 20000 in
theorem ct_X11_knows (l : Launch) (G : dkG) (hGd : dk_Gd G) (b p d : Int) : dk_Ct l G dk_Ty yX11_knows cX11_knows 4 (some .int) 3 190 190 (fun av σ => av = [(4, 141), (0, b), (0, p), (0, d)] ∧ (MI σ)) (fun _ σ r_ σ' => ∃ z : Int, r_ = some (0, z) ∧ (∀ k_ j_ : Int, ¬ ((k_ = 141 ∧ j_ = 53) ∨ (170 ≤ k_ ∧ k_ ≤ 175)) → σ' k_ j_ = σ k_ j_) ∧ (True ∧ MI σ')) := by
  refine dk_enter hGd (by decide) (fun av σ hpre hok => ?_)
  obtain ⟨rfl, hG⟩ := hpre
  refine ⟨Nat.le_of_ble_eq_true rfl, fun E hE hR _ => ?_⟩
  have hi_b : dk_i32 b := dk_oki (hok _ (by simp))
  have hi_p : dk_i32 p := dk_oki (hok _ (by simp))
  have hi_d : dk_i32 d := dk_oki (hok _ (by simp))
  show dk_PJ E 0 [(4, 141), (0, b), (0, p), (0, d)] [] 190 σ
  refine dk_aload_n (pc' := 1) hE dX11_knows_0 rfl rfl rfl ?_
  refine dk_iload_n (pc' := 2) hE dX11_knows_1 rfl rfl rfl ?_
  refine dk_cV (pc' := 5) (as := [(0, b)]) hE lk_X11_422 (ct_X11_isBody l G hGd b) dX11_knows_2 rfl is_141 rfl (by decide) (Nat.le_of_ble_eq_true rfl) rfl rfl (fun r2 σ1 hr2 hor2 => ?_)
  obtain ⟨v3, rfl, hfσ1, hpr2⟩ := hr2
  have hsσ1 : σ = σ1 := (funext (fun k => funext (fun j => hfσ1 k j not_false))).symm
  subst hsσ1
  rcases hpr2 with ⟨rfl, hpr2⟩ | rfl
  · skip
    refine dk_if_eq (tgt := 34) (pc' := 8) hE dX11_knows_5 (by decide) rfl (fun hc4 => absurd hc4 (by decide)) (fun hc4 => ?_)
    refine dk_aload_n (pc' := 9) hE dX11_knows_8 rfl rfl rfl ?_
    refine dk_iload_n (pc' := 10) hE dX11_knows_9 rfl rfl rfl ?_
    refine dk_cV (pc' := 13) (as := [(0, p)]) hE lk_X11_333 (ct_X11_isPart l G hGd p) dX11_knows_10 rfl is_141 rfl (by decide) (Nat.le_of_ble_eq_true rfl) rfl rfl (fun r6 σ5 hr6 hor6 => ?_)
    obtain ⟨v7, rfl, hfσ5, hpr6⟩ := hr6
    have hsσ5 : σ = σ5 := (funext (fun k => funext (fun j => hfσ5 k j not_false))).symm
    subst hsσ5
    rcases hpr6 with ⟨rfl, hpr6⟩ | rfl
    · skip
      refine dk_if_eq (tgt := 34) (pc' := 16) hE dX11_knows_13 (by decide) rfl (fun hc8 => absurd hc8 (by decide)) (fun hc8 => ?_)
      refine dk_iload_n (pc' := 17) hE dX11_knows_16 rfl rfl rfl ?_
      refine dk_cS (pc' := 20) (as := [(0, d)]) hE lk_X11_371 (ct_X11_isDay l G hGd d) dX11_knows_17 rfl rfl (by decide) (Nat.le_of_ble_eq_true rfl) rfl rfl (fun r10 σ9 hr10 hor10 => ?_)
      obtain ⟨v11, rfl, hfσ9, hpr10⟩ := hr10
      have hsσ9 : σ = σ9 := (funext (fun k => funext (fun j => hfσ9 k j not_false))).symm
      subst hsσ9
      rcases hpr10 with ⟨rfl, hpr10⟩ | ⟨rfl, hpr10⟩
      · skip
        refine dk_if_eq (tgt := 34) (pc' := 23) hE dX11_knows_20 (by decide) rfl (fun hc12 => absurd hc12 (by decide)) (fun hc12 => ?_)
        refine dk_aload_n (pc' := 24) hE dX11_knows_23 rfl rfl rfl ?_
        refine dk_iconst (pc' := 25) hE dX11_knows_24 (by decide) rfl ?_
        refine dk_iload_n (pc' := 26) hE dX11_knows_25 rfl rfl rfl ?_
        refine dk_iload_n (pc' := 27) hE dX11_knows_26 rfl rfl rfl ?_
        refine dk_iload_n (pc' := 28) hE dX11_knows_27 rfl rfl rfl ?_
        refine dk_cV (pc' := 31) (as := [(0, 0), (0, b), (0, p), (0, d)]) hE lk_X11_425 (ct_X11_tell l G hGd 0 b p d) dX11_knows_28 rfl is_141 rfl (by decide) (Nat.le_of_ble_eq_true rfl) ⟨rfl, hG, (by omega), (by omega), (by omega), (by omega)⟩ rfl (fun r14 σ13 hr14 hor14 => ?_)
        obtain ⟨v15, rfl, hfσ13, hpr14⟩ := hr14
        obtain ⟨hpr14, hgr14⟩ := hpr14
        refine dk_goto (tgt := 35) hE dX11_knows_31 (by decide) ?_
        exact dk_iret (st := []) hE hR dX11_knows_35 ⟨_, rfl, (fun k_ j_ h_ => by rw [hfσ13 k_ j_ (fun w_ => h_ (w_.elim (fun x0_ => Or.inl (x0_)) (fun y0_ => Or.inr (y0_))))]), ⟨trivial, hgr14⟩⟩
      · skip
        refine dk_if_eq (tgt := 34) (pc' := 23) hE dX11_knows_20 (by decide) rfl (fun hc16 => ?_) (fun hc16 => absurd hc16 (by decide))
        refine dk_iconst (pc' := 35) hE dX11_knows_34 (by decide) rfl ?_
        exact dk_iret (st := []) hE hR dX11_knows_35 ⟨_, rfl, (fun k_ j_ h_ => rfl), ⟨trivial, hG⟩⟩
    · skip
      refine dk_if_eq (tgt := 34) (pc' := 16) hE dX11_knows_13 (by decide) rfl (fun hc17 => ?_) (fun hc17 => absurd hc17 (by decide))
      refine dk_iconst (pc' := 35) hE dX11_knows_34 (by decide) rfl ?_
      exact dk_iret (st := []) hE hR dX11_knows_35 ⟨_, rfl, (fun k_ j_ h_ => rfl), ⟨trivial, hG⟩⟩
  · skip
    refine dk_if_eq (tgt := 34) (pc' := 8) hE dX11_knows_5 (by decide) rfl (fun hc18 => ?_) (fun hc18 => absurd hc18 (by decide))
    refine dk_iconst (pc' := 35) hE dX11_knows_34 (by decide) rfl ?_
    exact dk_iret (st := []) hE hR dX11_knows_35 ⟨_, rfl, (fun k_ j_ h_ => rfl), ⟨trivial, hG⟩⟩
set_option maxHeartbeats 4000000 in
set_option maxRecDepth 20000 in
theorem ct_X11_danced (l : Launch) (G : dkG) (hGd : dk_Gd G) (b p d : Int) : dk_Ct l G dk_Ty yX11_danced cX11_danced 4 (some .int) 3 190 190 (fun av σ => av = [(4, 141), (0, b), (0, p), (0, d)] ∧ (MI σ)) (fun _ σ r_ σ' => ∃ z : Int, r_ = some (0, z) ∧ (∀ k_ j_ : Int, ¬ ((k_ = 141 ∧ j_ = 53) ∨ (170 ≤ k_ ∧ k_ ≤ 175)) → σ' k_ j_ = σ k_ j_) ∧ (True ∧ MI σ')) := by
  refine dk_enter hGd (by decide) (fun av σ hpre hok => ?_)
  obtain ⟨rfl, hG⟩ := hpre
  refine ⟨Nat.le_of_ble_eq_true rfl, fun E hE hR _ => ?_⟩
  have hi_b : dk_i32 b := dk_oki (hok _ (by simp))
  have hi_p : dk_i32 p := dk_oki (hok _ (by simp))
  have hi_d : dk_i32 d := dk_oki (hok _ (by simp))
  show dk_PJ E 0 [(4, 141), (0, b), (0, p), (0, d)] [] 190 σ
  refine dk_aload_n (pc' := 1) hE dX11_danced_0 rfl rfl rfl ?_
  refine dk_iload_n (pc' := 2) hE dX11_danced_1 rfl rfl rfl ?_
  refine dk_cV (pc' := 5) (as := [(0, b)]) hE lk_X11_422 (ct_X11_isBody l G hGd b) dX11_danced_2 rfl is_141 rfl (by decide) (Nat.le_of_ble_eq_true rfl) rfl rfl (fun r2 σ1 hr2 hor2 => ?_)
  obtain ⟨v3, rfl, hfσ1, hpr2⟩ := hr2
  have hsσ1 : σ = σ1 := (funext (fun k => funext (fun j => hfσ1 k j not_false))).symm
  subst hsσ1
  rcases hpr2 with ⟨rfl, hpr2⟩ | rfl
  · skip
    refine dk_if_eq (tgt := 34) (pc' := 8) hE dX11_danced_5 (by decide) rfl (fun hc4 => absurd hc4 (by decide)) (fun hc4 => ?_)
    refine dk_aload_n (pc' := 9) hE dX11_danced_8 rfl rfl rfl ?_
    refine dk_iload_n (pc' := 10) hE dX11_danced_9 rfl rfl rfl ?_
    refine dk_cV (pc' := 13) (as := [(0, p)]) hE lk_X11_333 (ct_X11_isPart l G hGd p) dX11_danced_10 rfl is_141 rfl (by decide) (Nat.le_of_ble_eq_true rfl) rfl rfl (fun r6 σ5 hr6 hor6 => ?_)
    obtain ⟨v7, rfl, hfσ5, hpr6⟩ := hr6
    have hsσ5 : σ = σ5 := (funext (fun k => funext (fun j => hfσ5 k j not_false))).symm
    subst hsσ5
    rcases hpr6 with ⟨rfl, hpr6⟩ | rfl
    · skip
      refine dk_if_eq (tgt := 34) (pc' := 16) hE dX11_danced_13 (by decide) rfl (fun hc8 => absurd hc8 (by decide)) (fun hc8 => ?_)
      refine dk_iload_n (pc' := 17) hE dX11_danced_16 rfl rfl rfl ?_
      refine dk_cS (pc' := 20) (as := [(0, d)]) hE lk_X11_371 (ct_X11_isDay l G hGd d) dX11_danced_17 rfl rfl (by decide) (Nat.le_of_ble_eq_true rfl) rfl rfl (fun r10 σ9 hr10 hor10 => ?_)
      obtain ⟨v11, rfl, hfσ9, hpr10⟩ := hr10
      have hsσ9 : σ = σ9 := (funext (fun k => funext (fun j => hfσ9 k j not_false))).symm
      subst hsσ9
      rcases hpr10 with ⟨rfl, hpr10⟩ | ⟨rfl, hpr10⟩
      · skip
        refine dk_if_eq (tgt := 34) (pc' := 23) hE dX11_danced_20 (by decide) rfl (fun hc12 => absurd hc12 (by decide)) (fun hc12 => ?_)
        refine dk_aload_n (pc' := 24) hE dX11_danced_23 rfl rfl rfl ?_
        refine dk_iconst (pc' := 25) hE dX11_danced_24 (by decide) rfl ?_
        refine dk_iload_n (pc' := 26) hE dX11_danced_25 rfl rfl rfl ?_
        refine dk_iload_n (pc' := 27) hE dX11_danced_26 rfl rfl rfl ?_
        refine dk_iload_n (pc' := 28) hE dX11_danced_27 rfl rfl rfl ?_
        refine dk_cV (pc' := 31) (as := [(0, 1), (0, b), (0, p), (0, d)]) hE lk_X11_425 (ct_X11_tell l G hGd 1 b p d) dX11_danced_28 rfl is_141 rfl (by decide) (Nat.le_of_ble_eq_true rfl) ⟨rfl, hG, (by omega), (by omega), (by omega), (by omega)⟩ rfl (fun r14 σ13 hr14 hor14 => ?_)
        obtain ⟨v15, rfl, hfσ13, hpr14⟩ := hr14
        obtain ⟨hpr14, hgr14⟩ := hpr14
        refine dk_goto (tgt := 35) hE dX11_danced_31 (by decide) ?_
        exact dk_iret (st := []) hE hR dX11_danced_35 ⟨_, rfl, (fun k_ j_ h_ => by rw [hfσ13 k_ j_ (fun w_ => h_ (w_.elim (fun x0_ => Or.inl (x0_)) (fun y0_ => Or.inr (y0_))))]), ⟨trivial, hgr14⟩⟩
      · skip
        refine dk_if_eq (tgt := 34) (pc' := 23) hE dX11_danced_20 (by decide) rfl (fun hc16 => ?_) (fun hc16 => absurd hc16 (by decide))
        refine dk_iconst (pc' := 35) hE dX11_danced_34 (by decide) rfl ?_
        exact dk_iret (st := []) hE hR dX11_danced_35 ⟨_, rfl, (fun k_ j_ h_ => rfl), ⟨trivial, hG⟩⟩
    · skip
      refine dk_if_eq (tgt := 34) (pc' := 16) hE dX11_danced_13 (by decide) rfl (fun hc17 => ?_) (fun hc17 => absurd hc17 (by decide))
      refine dk_iconst (pc' := 35) hE dX11_danced_34 (by decide) rfl ?_
      exact dk_iret (st := []) hE hR dX11_danced_35 ⟨_, rfl, (fun k_ j_ h_ => rfl), ⟨trivial, hG⟩⟩
  · skip
    refine dk_if_eq (tgt := 34) (pc' := 8) hE dX11_danced_5 (by decide) rfl (fun hc18 => ?_) (fun hc18 => absurd hc18 (by decide))
    refine dk_iconst (pc' := 35) hE dX11_danced_34 (by decide) rfl ?_
    exact dk_iret (st := []) hE hR dX11_danced_35 ⟨_, rfl, (fun k_ j_ h_ => rfl), ⟨trivial, hG⟩⟩
set_option maxHeartbeats 4000000 in
set_option maxRecDepth 20000 in
theorem ct_X11_out (l : Launch) (G : dkG) (hGd : dk_Gd G) (b d e : Int) : dk_Ct l G dk_Ty yX11_out cX11_out 4 (some .int) 3 190 190 (fun av σ => av = [(4, 141), (0, b), (0, d), (0, e)] ∧ (MI σ)) (fun _ σ r_ σ' => ∃ z : Int, r_ = some (0, z) ∧ (∀ k_ j_ : Int, ¬ ((k_ = 141 ∧ j_ = 53) ∨ (170 ≤ k_ ∧ k_ ≤ 175)) → σ' k_ j_ = σ k_ j_) ∧ (True ∧ MI σ')) := by
  refine dk_enter hGd (by decide) (fun av σ hpre hok => ?_)
  obtain ⟨rfl, hG⟩ := hpre
  refine ⟨Nat.le_of_ble_eq_true rfl, fun E hE hR _ => ?_⟩
  have hi_b : dk_i32 b := dk_oki (hok _ (by simp))
  have hi_d : dk_i32 d := dk_oki (hok _ (by simp))
  have hi_e : dk_i32 e := dk_oki (hok _ (by simp))
  show dk_PJ E 0 [(4, 141), (0, b), (0, d), (0, e)] [] 190 σ
  refine dk_aload_n (pc' := 1) hE dX11_out_0 rfl rfl rfl ?_
  refine dk_iload_n (pc' := 2) hE dX11_out_1 rfl rfl rfl ?_
  refine dk_cV (pc' := 5) (as := [(0, b)]) hE lk_X11_422 (ct_X11_isBody l G hGd b) dX11_out_2 rfl is_141 rfl (by decide) (Nat.le_of_ble_eq_true rfl) rfl rfl (fun r2 σ1 hr2 hor2 => ?_)
  obtain ⟨v3, rfl, hfσ1, hpr2⟩ := hr2
  have hsσ1 : σ = σ1 := (funext (fun k => funext (fun j => hfσ1 k j not_false))).symm
  subst hsσ1
  rcases hpr2 with ⟨rfl, hpr2⟩ | rfl
  · skip
    refine dk_if_eq (tgt := 37) (pc' := 8) hE dX11_out_5 (by decide) rfl (fun hc4 => absurd hc4 (by decide)) (fun hc4 => ?_)
    refine dk_iload_n (pc' := 9) hE dX11_out_8 rfl rfl rfl ?_
    refine dk_cS (pc' := 12) (as := [(0, d)]) hE lk_X11_371 (ct_X11_isDay l G hGd d) dX11_out_9 rfl rfl (by decide) (Nat.le_of_ble_eq_true rfl) rfl rfl (fun r6 σ5 hr6 hor6 => ?_)
    obtain ⟨v7, rfl, hfσ5, hpr6⟩ := hr6
    have hsσ5 : σ = σ5 := (funext (fun k => funext (fun j => hfσ5 k j not_false))).symm
    subst hsσ5
    rcases hpr6 with ⟨rfl, hpr6⟩ | ⟨rfl, hpr6⟩
    · skip
      refine dk_if_eq (tgt := 37) (pc' := 15) hE dX11_out_12 (by decide) rfl (fun hc8 => absurd hc8 (by decide)) (fun hc8 => ?_)
      refine dk_iload_n (pc' := 16) hE dX11_out_15 rfl rfl rfl ?_
      refine dk_iload_n (pc' := 17) hE dX11_out_16 rfl rfl rfl ?_
      refine dk_sipush (pc' := 20) hE dX11_out_17 (by decide) rfl ?_
      refine dk_cS (pc' := 23) (as := [(0, e), (0, d), (0, 999)]) hE lk_X11_323 (ct_X11_isIn l G hGd e d 999) dX11_out_20 rfl rfl (by decide) (Nat.le_of_ble_eq_true rfl) rfl rfl (fun r10 σ9 hr10 hor10 => ?_)
      obtain ⟨v11, rfl, hfσ9, hpr10⟩ := hr10
      have hsσ9 : σ = σ9 := (funext (fun k => funext (fun j => hfσ9 k j not_false))).symm
      subst hsσ9
      rcases hpr10 with ⟨rfl, hpr10⟩ | ⟨rfl, hpr10⟩
      · skip
        refine dk_if_eq (tgt := 37) (pc' := 26) hE dX11_out_23 (by decide) rfl (fun hc12 => absurd hc12 (by decide)) (fun hc12 => ?_)
        refine dk_aload_n (pc' := 27) hE dX11_out_26 rfl rfl rfl ?_
        refine dk_iconst (pc' := 28) hE dX11_out_27 (by decide) rfl ?_
        refine dk_iload_n (pc' := 29) hE dX11_out_28 rfl rfl rfl ?_
        refine dk_iload_n (pc' := 30) hE dX11_out_29 rfl rfl rfl ?_
        refine dk_iload_n (pc' := 31) hE dX11_out_30 rfl rfl rfl ?_
        refine dk_cV (pc' := 34) (as := [(0, 2), (0, b), (0, d), (0, e)]) hE lk_X11_425 (ct_X11_tell l G hGd 2 b d e) dX11_out_31 rfl is_141 rfl (by decide) (Nat.le_of_ble_eq_true rfl) ⟨rfl, hG, (by omega), (by omega), (by omega), (by omega)⟩ rfl (fun r14 σ13 hr14 hor14 => ?_)
        obtain ⟨v15, rfl, hfσ13, hpr14⟩ := hr14
        obtain ⟨hpr14, hgr14⟩ := hpr14
        refine dk_goto (tgt := 38) hE dX11_out_34 (by decide) ?_
        exact dk_iret (st := []) hE hR dX11_out_38 ⟨_, rfl, (fun k_ j_ h_ => by rw [hfσ13 k_ j_ (fun w_ => h_ (w_.elim (fun x0_ => Or.inl (x0_)) (fun y0_ => Or.inr (y0_))))]), ⟨trivial, hgr14⟩⟩
      · skip
        refine dk_if_eq (tgt := 37) (pc' := 26) hE dX11_out_23 (by decide) rfl (fun hc16 => ?_) (fun hc16 => absurd hc16 (by decide))
        refine dk_iconst (pc' := 38) hE dX11_out_37 (by decide) rfl ?_
        exact dk_iret (st := []) hE hR dX11_out_38 ⟨_, rfl, (fun k_ j_ h_ => rfl), ⟨trivial, hG⟩⟩
    · skip
      refine dk_if_eq (tgt := 37) (pc' := 15) hE dX11_out_12 (by decide) rfl (fun hc17 => ?_) (fun hc17 => absurd hc17 (by decide))
      refine dk_iconst (pc' := 38) hE dX11_out_37 (by decide) rfl ?_
      exact dk_iret (st := []) hE hR dX11_out_38 ⟨_, rfl, (fun k_ j_ h_ => rfl), ⟨trivial, hG⟩⟩
  · skip
    refine dk_if_eq (tgt := 37) (pc' := 8) hE dX11_out_5 (by decide) rfl (fun hc18 => ?_) (fun hc18 => absurd hc18 (by decide))
    refine dk_iconst (pc' := 38) hE dX11_out_37 (by decide) rfl ?_
    exact dk_iret (st := []) hE hR dX11_out_38 ⟨_, rfl, (fun k_ j_ h_ => rfl), ⟨trivial, hG⟩⟩
set_option maxHeartbeats 4000000 in
set_option maxRecDepth 20000 in
theorem ct_X11_leaves (l : Launch) (G : dkG) (hGd : dk_Gd G) (b d : Int) : dk_Ct l G dk_Ty yX11_leaves cX11_leaves 3 (some .int) 3 190 190 (fun av σ => av = [(4, 141), (0, b), (0, d)] ∧ (MI σ)) (fun _ σ r_ σ' => ∃ z : Int, r_ = some (0, z) ∧ (∀ k_ j_ : Int, ¬ ((k_ = 141 ∧ j_ = 53) ∨ (170 ≤ k_ ∧ k_ ≤ 175)) → σ' k_ j_ = σ k_ j_) ∧ (True ∧ MI σ')) := by
  refine dk_enter hGd (by decide) (fun av σ hpre hok => ?_)
  obtain ⟨rfl, hG⟩ := hpre
  refine ⟨Nat.le_of_ble_eq_true rfl, fun E hE hR _ => ?_⟩
  have hi_b : dk_i32 b := dk_oki (hok _ (by simp))
  have hi_d : dk_i32 d := dk_oki (hok _ (by simp))
  show dk_PJ E 0 [(4, 141), (0, b), (0, d)] [] 190 σ
  refine dk_aload_n (pc' := 1) hE dX11_leaves_0 rfl rfl rfl ?_
  refine dk_iload_n (pc' := 2) hE dX11_leaves_1 rfl rfl rfl ?_
  refine dk_cV (pc' := 5) (as := [(0, b)]) hE lk_X11_422 (ct_X11_isBody l G hGd b) dX11_leaves_2 rfl is_141 rfl (by decide) (Nat.le_of_ble_eq_true rfl) rfl rfl (fun r2 σ1 hr2 hor2 => ?_)
  obtain ⟨v3, rfl, hfσ1, hpr2⟩ := hr2
  have hsσ1 : σ = σ1 := (funext (fun k => funext (fun j => hfσ1 k j not_false))).symm
  subst hsσ1
  rcases hpr2 with ⟨rfl, hpr2⟩ | rfl
  · skip
    refine dk_if_eq (tgt := 26) (pc' := 8) hE dX11_leaves_5 (by decide) rfl (fun hc4 => absurd hc4 (by decide)) (fun hc4 => ?_)
    refine dk_iload_n (pc' := 9) hE dX11_leaves_8 rfl rfl rfl ?_
    refine dk_cS (pc' := 12) (as := [(0, d)]) hE lk_X11_371 (ct_X11_isDay l G hGd d) dX11_leaves_9 rfl rfl (by decide) (Nat.le_of_ble_eq_true rfl) rfl rfl (fun r6 σ5 hr6 hor6 => ?_)
    obtain ⟨v7, rfl, hfσ5, hpr6⟩ := hr6
    have hsσ5 : σ = σ5 := (funext (fun k => funext (fun j => hfσ5 k j not_false))).symm
    subst hsσ5
    rcases hpr6 with ⟨rfl, hpr6⟩ | ⟨rfl, hpr6⟩
    · skip
      refine dk_if_eq (tgt := 26) (pc' := 15) hE dX11_leaves_12 (by decide) rfl (fun hc8 => absurd hc8 (by decide)) (fun hc8 => ?_)
      refine dk_aload_n (pc' := 16) hE dX11_leaves_15 rfl rfl rfl ?_
      refine dk_iconst (pc' := 17) hE dX11_leaves_16 (by decide) rfl ?_
      refine dk_iload_n (pc' := 18) hE dX11_leaves_17 rfl rfl rfl ?_
      refine dk_iload_n (pc' := 19) hE dX11_leaves_18 rfl rfl rfl ?_
      refine dk_iconst (pc' := 20) hE dX11_leaves_19 (by decide) rfl ?_
      refine dk_cV (pc' := 23) (as := [(0, 3), (0, b), (0, d), (0, 0)]) hE lk_X11_425 (ct_X11_tell l G hGd 3 b d 0) dX11_leaves_20 rfl is_141 rfl (by decide) (Nat.le_of_ble_eq_true rfl) ⟨rfl, hG, (by omega), (by omega), (by omega), (by omega)⟩ rfl (fun r10 σ9 hr10 hor10 => ?_)
      obtain ⟨v11, rfl, hfσ9, hpr10⟩ := hr10
      obtain ⟨hpr10, hgr10⟩ := hpr10
      refine dk_goto (tgt := 27) hE dX11_leaves_23 (by decide) ?_
      exact dk_iret (st := []) hE hR dX11_leaves_27 ⟨_, rfl, (fun k_ j_ h_ => by rw [hfσ9 k_ j_ (fun w_ => h_ (w_.elim (fun x0_ => Or.inl (x0_)) (fun y0_ => Or.inr (y0_))))]), ⟨trivial, hgr10⟩⟩
    · skip
      refine dk_if_eq (tgt := 26) (pc' := 15) hE dX11_leaves_12 (by decide) rfl (fun hc12 => ?_) (fun hc12 => absurd hc12 (by decide))
      refine dk_iconst (pc' := 27) hE dX11_leaves_26 (by decide) rfl ?_
      exact dk_iret (st := []) hE hR dX11_leaves_27 ⟨_, rfl, (fun k_ j_ h_ => rfl), ⟨trivial, hG⟩⟩
  · skip
    refine dk_if_eq (tgt := 26) (pc' := 8) hE dX11_leaves_5 (by decide) rfl (fun hc13 => ?_) (fun hc13 => absurd hc13 (by decide))
    refine dk_iconst (pc' := 27) hE dX11_leaves_26 (by decide) rfl ?_
    exact dk_iret (st := []) hE hR dX11_leaves_27 ⟨_, rfl, (fun k_ j_ h_ => rfl), ⟨trivial, hG⟩⟩
set_option maxHeartbeats 4000000 in
set_option maxRecDepth 20000 in
theorem ct_X11_film (l : Launch) (G : dkG) (hGd : dk_Gd G) (p c a : Int) : dk_Ct l G dk_Ty yX11_film cX11_film 4 (some .int) 4 190 190 (fun av σ => av = [(4, 141), (0, p), (0, c), (0, a)] ∧ (MI σ)) (fun _ σ r_ σ' => ∃ z : Int, r_ = some (0, z) ∧ (∀ k_ j_ : Int, ¬ ((k_ = 141 ∧ j_ = 53) ∨ (170 ≤ k_ ∧ k_ ≤ 175)) → σ' k_ j_ = σ k_ j_) ∧ (True ∧ MI σ')) := by
  refine dk_enter hGd (by decide) (fun av σ hpre hok => ?_)
  obtain ⟨rfl, hG⟩ := hpre
  refine ⟨Nat.le_of_ble_eq_true rfl, fun E hE hR _ => ?_⟩
  have hi_p : dk_i32 p := dk_oki (hok _ (by simp))
  have hi_c : dk_i32 c := dk_oki (hok _ (by simp))
  have hi_a : dk_i32 a := dk_oki (hok _ (by simp))
  show dk_PJ E 0 [(4, 141), (0, p), (0, c), (0, a)] [] 190 σ
  refine dk_aload_n (pc' := 1) hE dX11_film_0 rfl rfl rfl ?_
  refine dk_iload_n (pc' := 2) hE dX11_film_1 rfl rfl rfl ?_
  refine dk_cV (pc' := 5) (as := [(0, p)]) hE lk_X11_368 (ct_X11_isNoted l G hGd p) dX11_film_2 rfl is_141 rfl (by decide) (Nat.le_of_ble_eq_true rfl) rfl rfl (fun r2 σ1 hr2 hor2 => ?_)
  obtain ⟨v3, rfl, hfσ1, hpr2⟩ := hr2
  have hsσ1 : σ = σ1 := (funext (fun k => funext (fun j => hfσ1 k j not_false))).symm
  subst hsσ1
  rcases hpr2 with ⟨rfl, hpr2⟩ | rfl
  · skip
    refine dk_if_eq (tgt := 41) (pc' := 8) hE dX11_film_5 (by decide) rfl (fun hc4 => absurd hc4 (by decide)) (fun hc4 => ?_)
    refine dk_iload_n (pc' := 9) hE dX11_film_8 rfl rfl rfl ?_
    refine dk_iconst (pc' := 10) hE dX11_film_9 (by decide) rfl ?_
    refine dk_aload_n (pc' := 11) hE dX11_film_10 rfl rfl rfl ?_
    refine dk_iload_n (pc' := 12) hE dX11_film_11 rfl rfl rfl ?_
    refine dk_cV (pc' := 15) (as := [(0, p)]) hE lk_X11_339 (ct_X11_countsOf l G hGd p) dX11_film_12 rfl is_141 rfl (by decide) (Nat.le_of_ble_eq_true rfl) ⟨rfl, (by omega)⟩ rfl (fun r6 σ5 hr6 hor6 => ?_)
    obtain ⟨v7, rfl, hfσ5, hpr6⟩ := hr6
    have hsσ5 : σ = σ5 := (funext (fun k => funext (fun j => hfσ5 k j not_false))).symm
    subst hsσ5
    refine dk_cS (pc' := 18) (as := [(0, c), (0, 1), (0, v7)]) hE lk_X11_323 (ct_X11_isIn l G hGd c 1 v7) dX11_film_15 rfl rfl (by decide) (Nat.le_of_ble_eq_true rfl) rfl rfl (fun r9 σ8 hr9 hor9 => ?_)
    obtain ⟨v10, rfl, hfσ8, hpr9⟩ := hr9
    have hsσ8 : σ = σ8 := (funext (fun k => funext (fun j => hfσ8 k j not_false))).symm
    subst hsσ8
    rcases hpr9 with ⟨rfl, hpr9⟩ | ⟨rfl, hpr9⟩
    · skip
      refine dk_if_eq (tgt := 41) (pc' := 21) hE dX11_film_18 (by decide) rfl (fun hc11 => absurd hc11 (by decide)) (fun hc11 => ?_)
      refine dk_iload_n (pc' := 22) hE dX11_film_21 rfl rfl rfl ?_
      refine dk_iconst (pc' := 23) hE dX11_film_22 (by decide) rfl ?_
      refine dk_iconst (pc' := 24) hE dX11_film_23 (by decide) rfl ?_
      refine dk_cS (pc' := 27) (as := [(0, a), (0, 0), (0, 5)]) hE lk_X11_323 (ct_X11_isIn l G hGd a 0 5) dX11_film_24 rfl rfl (by decide) (Nat.le_of_ble_eq_true rfl) rfl rfl (fun r13 σ12 hr13 hor13 => ?_)
      obtain ⟨v14, rfl, hfσ12, hpr13⟩ := hr13
      have hsσ12 : σ = σ12 := (funext (fun k => funext (fun j => hfσ12 k j not_false))).symm
      subst hsσ12
      rcases hpr13 with ⟨rfl, hpr13⟩ | ⟨rfl, hpr13⟩
      · skip
        refine dk_if_eq (tgt := 41) (pc' := 30) hE dX11_film_27 (by decide) rfl (fun hc15 => absurd hc15 (by decide)) (fun hc15 => ?_)
        refine dk_aload_n (pc' := 31) hE dX11_film_30 rfl rfl rfl ?_
        refine dk_iconst (pc' := 32) hE dX11_film_31 (by decide) rfl ?_
        refine dk_iload_n (pc' := 33) hE dX11_film_32 rfl rfl rfl ?_
        refine dk_iload_n (pc' := 34) hE dX11_film_33 rfl rfl rfl ?_
        refine dk_iload_n (pc' := 35) hE dX11_film_34 rfl rfl rfl ?_
        refine dk_cV (pc' := 38) (as := [(0, 4), (0, p), (0, c), (0, a)]) hE lk_X11_425 (ct_X11_tell l G hGd 4 p c a) dX11_film_35 rfl is_141 rfl (by decide) (Nat.le_of_ble_eq_true rfl) ⟨rfl, hG, (by omega), (by omega), (by omega), (by omega)⟩ rfl (fun r17 σ16 hr17 hor17 => ?_)
        obtain ⟨v18, rfl, hfσ16, hpr17⟩ := hr17
        obtain ⟨hpr17, hgr17⟩ := hpr17
        refine dk_goto (tgt := 42) hE dX11_film_38 (by decide) ?_
        exact dk_iret (st := []) hE hR dX11_film_42 ⟨_, rfl, (fun k_ j_ h_ => by rw [hfσ16 k_ j_ (fun w_ => h_ (w_.elim (fun x0_ => Or.inl (x0_)) (fun y0_ => Or.inr (y0_))))]), ⟨trivial, hgr17⟩⟩
      · skip
        refine dk_if_eq (tgt := 41) (pc' := 30) hE dX11_film_27 (by decide) rfl (fun hc19 => ?_) (fun hc19 => absurd hc19 (by decide))
        refine dk_iconst (pc' := 42) hE dX11_film_41 (by decide) rfl ?_
        exact dk_iret (st := []) hE hR dX11_film_42 ⟨_, rfl, (fun k_ j_ h_ => rfl), ⟨trivial, hG⟩⟩
    · skip
      refine dk_if_eq (tgt := 41) (pc' := 21) hE dX11_film_18 (by decide) rfl (fun hc20 => ?_) (fun hc20 => absurd hc20 (by decide))
      refine dk_iconst (pc' := 42) hE dX11_film_41 (by decide) rfl ?_
      exact dk_iret (st := []) hE hR dX11_film_42 ⟨_, rfl, (fun k_ j_ h_ => rfl), ⟨trivial, hG⟩⟩
  · skip
    refine dk_if_eq (tgt := 41) (pc' := 8) hE dX11_film_5 (by decide) rfl (fun hc21 => ?_) (fun hc21 => absurd hc21 (by decide))
    refine dk_iconst (pc' := 42) hE dX11_film_41 (by decide) rfl ?_
    exact dk_iret (st := []) hE hR dX11_film_42 ⟨_, rfl, (fun k_ j_ h_ => rfl), ⟨trivial, hG⟩⟩
set_option maxHeartbeats 4000000 in
set_option maxRecDepth 20000 in
theorem ct_X11_untell (l : Launch) (G : dkG) (hGd : dk_Gd G) (f : Int) : dk_Ct l G dk_Ty yX11_untell cX11_untell 2 (some .boolean) 1 190 190 (fun av σ => av = [(4, 141), (0, f)]) (fun _ σ r_ σ' => ∃ z : Int, r_ = some (0, z) ∧ (∀ k_ j_ : Int, ¬ (k_ = 175) → σ' k_ j_ = σ k_ j_) ∧ (True)) := by
  refine dk_enter hGd (by decide) (fun av σ hpre hok => ?_)
  subst hpre
  refine ⟨Nat.le_of_ble_eq_true rfl, fun E hE hR _ => ?_⟩
  have hi_f : dk_i32 f := dk_oki (hok _ (by simp))
  show dk_PJ E 0 [(4, 141), (0, f)] [] 190 σ
  refine dk_iload_n (pc' := 1) hE dX11_untell_0 rfl rfl rfl ?_
  refine dk_if_lt (tgt := 21) (pc' := 4) hE dX11_untell_1 (by decide) rfl (fun hc1 => ?_) (fun hc1 => ?_)
  · skip
    refine dk_iconst (pc' := 22) hE dX11_untell_21 (by decide) rfl ?_
    exact dk_zret (st := []) hE hR dX11_untell_22 (by omega) ⟨_, rfl, (fun k_ j_ h_ => rfl), trivial⟩
  · skip
    refine dk_iload_n (pc' := 5) hE dX11_untell_4 rfl rfl rfl ?_
    refine dk_aload_n (pc' := 6) hE dX11_untell_5 rfl rfl rfl ?_
    refine gf_11_53 (pc' := 9) hE fl_X11_275 dX11_untell_6 is_141 rfl (fun v2 hv2 htv2 hbv2 => ?_)
    refine dk_icmp_ge (tgt := 21) (pc' := 12) hE dX11_untell_9 (by decide) rfl (fun hc3 => ?_) (fun hc3 => ?_)
    · skip
      refine dk_iconst (pc' := 22) hE dX11_untell_21 (by decide) rfl ?_
      exact dk_zret (st := []) hE hR dX11_untell_22 (by omega) ⟨_, rfl, (fun k_ j_ h_ => rfl), trivial⟩
    · skip
      refine dk_aload_n (pc' := 13) hE dX11_untell_12 rfl rfl rfl ?_
      refine gf_11_51 (pc' := 16) (w := 175) hE fl_X11_116 dX11_untell_13 is_141 rfl rfl ?_
      refine dk_iload_n (pc' := 17) hE dX11_untell_16 rfl rfl rfl ?_
      refine ga_103 (pc' := 18) hE dX11_untell_17 is_175 (by omega) rfl (fun v4 hv4 htv4 hbv4 => ?_)
      refine dk_if_lt (tgt := 23) (pc' := 21) hE dX11_untell_18 (by decide) rfl (fun hc5 => ?_) (fun hc5 => ?_)
      · skip
        refine dk_aload_n (pc' := 24) hE dX11_untell_23 rfl rfl rfl ?_
        refine gf_11_51 (pc' := 27) (w := 175) hE fl_X11_116 dX11_untell_24 is_141 rfl rfl ?_
        refine dk_iload_n (pc' := 28) hE dX11_untell_27 rfl rfl rfl ?_
        refine dk_aload_n (pc' := 29) hE dX11_untell_28 rfl rfl rfl ?_
        refine gf_11_54 (pc' := 32) hE fl_X11_419 dX11_untell_29 is_141 rfl (fun v6 hv6 htv6 hbv6 => ?_)
        refine pa_103 (pc' := 33) hE dX11_untell_32 is_175 (by omega) trivial rfl (fun σ7 eσ7 => ?_)
        refine dk_iconst (pc' := 34) hE dX11_untell_33 (by decide) rfl ?_
        exact dk_zret (st := []) hE hR dX11_untell_34 (by omega) ⟨_, rfl, (fun k_ j_ h_ => by rw [eσ7, dk_up_n (show ¬ (k_ = 175 ∧ j_ = f) from fun q_ => h_ (q_.1))]), trivial⟩
      · skip
        refine dk_iconst (pc' := 22) hE dX11_untell_21 (by decide) rfl ?_
        exact dk_zret (st := []) hE hR dX11_untell_22 (by omega) ⟨_, rfl, (fun k_ j_ h_ => rfl), trivial⟩
set_option maxHeartbeats 4000000 in
set_option maxRecDepth 20000 in
theorem ct_X11_isFact (l : Launch) (G : dkG) (hGd : dk_Gd G) (f a b k : Int) : dk_Ct l G dk_Ty yX11_isFact cX11_isFact 5 (some .boolean) 1 190 190 (fun av σ => av = [(4, 141), (0, f), (0, a), (0, b), (0, k)] ∧ (0 ≤ f ∧ f < 200)) (fun _ σ r_ σ' => ∃ z : Int, r_ = some (0, z) ∧ (∀ k_ j_ : Int, ¬ (False) → σ' k_ j_ = σ k_ j_) ∧ (z = 1 ∧ (σ 170 f = a) ∨ z = 0)) := by
  refine dk_enter hGd (by decide) (fun av σ hpre hok => ?_)
  obtain ⟨rfl, hf⟩ := hpre
  refine ⟨Nat.le_of_ble_eq_true rfl, fun E hE hR _ => ?_⟩
  have hi_f : dk_i32 f := dk_oki (hok _ (by simp))
  have hi_a : dk_i32 a := dk_oki (hok _ (by simp))
  have hi_b : dk_i32 b := dk_oki (hok _ (by simp))
  have hi_k : dk_i32 k := dk_oki (hok _ (by simp))
  show dk_PJ E 0 [(4, 141), (0, f), (0, a), (0, b), (0, k)] [] 190 σ
  refine dk_aload_n (pc' := 1) hE dX11_isFact_0 rfl rfl rfl ?_
  refine gf_11_46 (pc' := 4) (w := 170) hE fl_X11_101 dX11_isFact_1 is_141 rfl rfl ?_
  refine dk_iload_n (pc' := 5) hE dX11_isFact_4 rfl rfl rfl ?_
  refine ga_98 (pc' := 6) hE dX11_isFact_5 is_170 (by omega) rfl (fun v1 hv1 htv1 hbv1 => ?_)
  refine dk_iload_n (pc' := 7) hE dX11_isFact_6 rfl rfl rfl ?_
  refine dk_icmp_ne (tgt := 55) (pc' := 10) hE dX11_isFact_7 (by decide) rfl (fun hc2 => ?_) (fun hc2 => ?_)
  · skip
    refine dk_iconst (pc' := 56) hE dX11_isFact_55 (by decide) rfl ?_
    exact dk_zret (st := []) hE hR dX11_isFact_56 (by omega) ⟨_, rfl, (fun k_ j_ h_ => rfl), by omega⟩
  · skip
    refine dk_aload_n (pc' := 11) hE dX11_isFact_10 rfl rfl rfl ?_
    refine gf_11_47 (pc' := 14) (w := 171) hE fl_X11_104 dX11_isFact_11 is_141 rfl rfl ?_
    refine dk_iload_n (pc' := 15) hE dX11_isFact_14 rfl rfl rfl ?_
    refine ga_99 (pc' := 16) hE dX11_isFact_15 is_171 (by omega) rfl (fun v3 hv3 htv3 hbv3 => ?_)
    refine dk_iload_n (pc' := 17) hE dX11_isFact_16 rfl rfl rfl ?_
    refine dk_icmp_ne (tgt := 55) (pc' := 20) hE dX11_isFact_17 (by decide) rfl (fun hc4 => ?_) (fun hc4 => ?_)
    · skip
      refine dk_iconst (pc' := 56) hE dX11_isFact_55 (by decide) rfl ?_
      exact dk_zret (st := []) hE hR dX11_isFact_56 (by omega) ⟨_, rfl, (fun k_ j_ h_ => rfl), by omega⟩
    · skip
      refine dk_aload_n (pc' := 21) hE dX11_isFact_20 rfl rfl rfl ?_
      refine gf_11_50 (pc' := 24) (w := 174) hE fl_X11_113 dX11_isFact_21 is_141 rfl rfl ?_
      refine dk_iload_n (pc' := 25) hE dX11_isFact_24 rfl rfl rfl ?_
      refine ga_102 (pc' := 26) hE dX11_isFact_25 is_174 (by omega) rfl (fun v5 hv5 htv5 hbv5 => ?_)
      refine dk_iload (pc' := 28) hE dX11_isFact_26 rfl rfl ?_
      refine dk_icmp_gt (tgt := 55) (pc' := 31) hE dX11_isFact_28 (by decide) rfl (fun hc6 => ?_) (fun hc6 => ?_)
      · skip
        refine dk_iconst (pc' := 56) hE dX11_isFact_55 (by decide) rfl ?_
        exact dk_zret (st := []) hE hR dX11_isFact_56 (by omega) ⟨_, rfl, (fun k_ j_ h_ => rfl), by omega⟩
      · skip
        refine dk_aload_n (pc' := 32) hE dX11_isFact_31 rfl rfl rfl ?_
        refine gf_11_51 (pc' := 35) (w := 175) hE fl_X11_116 dX11_isFact_32 is_141 rfl rfl ?_
        refine dk_iload_n (pc' := 36) hE dX11_isFact_35 rfl rfl rfl ?_
        refine ga_103 (pc' := 37) hE dX11_isFact_36 is_175 (by omega) rfl (fun v7 hv7 htv7 hbv7 => ?_)
        refine dk_if_lt (tgt := 51) (pc' := 40) hE dX11_isFact_37 (by decide) rfl (fun hc8 => ?_) (fun hc8 => ?_)
        · skip
          refine dk_iconst (pc' := 52) hE dX11_isFact_51 (by decide) rfl ?_
          refine dk_goto (tgt := 56) hE dX11_isFact_52 (by decide) ?_
          exact dk_zret (st := []) hE hR dX11_isFact_56 (by omega) ⟨_, rfl, (fun k_ j_ h_ => rfl), by omega⟩
        · skip
          refine dk_aload_n (pc' := 41) hE dX11_isFact_40 rfl rfl rfl ?_
          refine gf_11_51 (pc' := 44) (w := 175) hE fl_X11_116 dX11_isFact_41 is_141 rfl rfl ?_
          refine dk_iload_n (pc' := 45) hE dX11_isFact_44 rfl rfl rfl ?_
          refine ga_103 (pc' := 46) hE dX11_isFact_45 is_175 (by omega) rfl (fun v9 hv9 htv9 hbv9 => ?_)
          have hq9 : v7 = v9 := (show v9 = v7 by rw [hv9, hv7]).symm
          subst hq9
          clear htv9 hbv9
          refine dk_iload (pc' := 48) hE dX11_isFact_46 rfl rfl ?_
          refine dk_icmp_le (tgt := 55) (pc' := 51) hE dX11_isFact_48 (by decide) rfl (fun hc10 => ?_) (fun hc10 => ?_)
          · skip
            refine dk_iconst (pc' := 56) hE dX11_isFact_55 (by decide) rfl ?_
            exact dk_zret (st := []) hE hR dX11_isFact_56 (by omega) ⟨_, rfl, (fun k_ j_ h_ => rfl), by omega⟩
          · skip
            refine dk_iconst (pc' := 52) hE dX11_isFact_51 (by decide) rfl ?_
            refine dk_goto (tgt := 56) hE dX11_isFact_52 (by decide) ?_
            exact dk_zret (st := []) hE hR dX11_isFact_56 (by omega) ⟨_, rfl, (fun k_ j_ h_ => rfl), by omega⟩
