theorem fpj26_79 {k j : Int} (h : k = 141 ∧ j = 79) : ¬ mFP k j := by obtain ⟨rfl, rfl⟩ := h; omega
set_option maxHeartbeats 4000000 in
set_option maxRecDepth 20000 in
theorem ct_X11_readWorks (l : Launch) (G : dkG) (hGd : dk_Gd G) (r n w q : Int) : dk_Ct l G dk_Ty yX11_readWorks cX11_readWorks 4 (none) 6 190 190 (fun av σ => av = [(4, 141)] ∧ (TK σ) ∧ (σ 141 3 ≤ 1400) ∧ (r = σ 141 28) ∧ (0 ≤ r ∧ r ≤ 1) ∧ (n = σ 147 r) ∧ (w = σ 145 r) ∧ (q = σ 146 r) ∧ (TI r σ) ∧ (n = w + q) ∧ (0 ≤ w ∧ w ≤ 4) ∧ (0 ≤ q ∧ q ≤ 12)) (fun _ σ r_ σ' => r_ = none ∧ (∀ k_ j_ : Int, ¬ ((k_ = 141 ∧ j_ = 4) ∨ (k_ = 141 ∧ j_ = 5) ∨ (k_ = 141 ∧ j_ = 6) ∨ (k_ = 141 ∧ j_ = 7) ∨ (k_ = 141 ∧ j_ = 8) ∨ (k_ = 141 ∧ j_ = 9) ∨ (k_ = 141 ∧ j_ = 10) ∨ (144 ≤ k_ ∧ k_ ≤ 159)) → σ' k_ j_ = σ k_ j_) ∧ (RX r σ σ' ∧ (σ 141 4 = 0 → σ 141 8 ≠ 0 → 1 ≤ σ' 141 4 ∨ σ 141 6 < σ' 141 6) ∧ σ' 147 r = σ' 145 r + σ' 146 r ∧ 0 ≤ σ' 145 r ∧ σ' 145 r ≤ 4 ∧ 0 ≤ σ' 146 r ∧ σ' 146 r ≤ 12)) := by
  refine dk_enter hGd (by decide) (fun av σ hpre hok => ?_)
  obtain ⟨rfl, hT, hS, hr, hr1, hn, hw, hq, hTI, hnn, hw4, hq4⟩ := hpre
  refine ⟨Nat.le_of_ble_eq_true rfl, fun E hE hR _ => ?_⟩
  show dk_PJ E 0 [(4, 141), (9, 0), (9, 0), (9, 0)] [] 190 σ
  refine dk_aload_n (pc' := 1) hE dX11_readWorks_0 rfl rfl rfl ?_
  refine dk_ldc2 (pc' := 4) hE dX11_readWorks_1 cs_X11_170 (by decide) rfl ?_
  refine dk_cV (pc' := 7) (as := [(3, 439905906546)]) hE lk_X11_281 (ct_X11_isWord l G hGd 439905906546) dX11_readWorks_4 rfl is_141 rfl (by decide) (Nat.le_of_ble_eq_true rfl) rfl rfl (fun r2 σ1 hr2 hor2 => ?_)
  obtain ⟨v3, rfl, hfσ1, hpr2⟩ := hr2
  have hsσ1 : σ = σ1 := (funext (fun k => funext (fun j => hfσ1 k j not_false))).symm
  subst hsσ1
  rcases hpr2 with ⟨rfl, hpr2⟩ | rfl
  · skip
    refine dk_istore_n (pc' := 8) (ls' := [(4, 141), (0, 1), (9, 0), (9, 0)]) hE dX11_readWorks_7 rfl rfl (by decide) rfl ?_
    refine dk_aload_n (pc' := 9) hE dX11_readWorks_8 rfl rfl rfl ?_
    refine dk_ldc2 (pc' := 12) hE dX11_readWorks_9 cs_X11_174 (by decide) rfl ?_
    refine dk_cV (pc' := 15) (as := [(3, 2003792491)]) hE lk_X11_281 (ct_X11_isWord l G hGd 2003792491) dX11_readWorks_12 rfl is_141 rfl (by decide) (Nat.le_of_ble_eq_true rfl) rfl rfl (fun r5 σ4 hr5 hor5 => ?_)
    obtain ⟨v6, rfl, hfσ4, hpr5⟩ := hr5
    have hsσ4 : σ = σ4 := (funext (fun k => funext (fun j => hfσ4 k j not_false))).symm
    subst hsσ4
    rcases hpr5 with ⟨rfl, hpr5⟩ | rfl
    · skip
      refine dk_istore_n (pc' := 16) (ls' := [(4, 141), (0, 1), (0, 1), (9, 0)]) hE dX11_readWorks_15 rfl rfl (by decide) rfl ?_
      refine dk_aload_n (pc' := 17) hE dX11_readWorks_16 rfl rfl rfl ?_
      refine dk_ldc2 (pc' := 20) hE dX11_readWorks_17 cs_X11_178 (by decide) rfl ?_
      refine dk_cV (pc' := 23) (as := [(3, 1852798053)]) hE lk_X11_281 (ct_X11_isWord l G hGd 1852798053) dX11_readWorks_20 rfl is_141 rfl (by decide) (Nat.le_of_ble_eq_true rfl) rfl rfl (fun r8 σ7 hr8 hor8 => ?_)
      obtain ⟨v9, rfl, hfσ7, hpr8⟩ := hr8
      have hsσ7 : σ = σ7 := (funext (fun k => funext (fun j => hfσ7 k j not_false))).symm
      subst hsσ7
      rcases hpr8 with ⟨rfl, hpr8⟩ | rfl
      · skip
        refine dk_istore_n (pc' := 24) (ls' := [(4, 141), (0, 1), (0, 1), (0, 1)]) hE dX11_readWorks_23 rfl rfl (by decide) rfl ?_
        refine dk_aload_n (pc' := 25) hE dX11_readWorks_24 rfl rfl rfl ?_
        refine dk_iload_n (pc' := 26) hE dX11_readWorks_25 rfl rfl rfl ?_
        refine dk_iload_n (pc' := 27) hE dX11_readWorks_26 rfl rfl rfl ?_
        have hz10 : σ 141 28 = r := by rw [hr]
        have hz11 : σ 145 r = w := by rw [hw]
        have hz12 : σ 146 r = q := by rw [hq]
        refine dk_cV (pc' := 30) (as := [(0, 1), (0, 1)]) hE lk_X11_284 (ct_X11_isFull l G hGd 1 1 r w q) dX11_readWorks_27 rfl is_141 rfl (by decide) (Nat.le_of_ble_eq_true rfl) ⟨rfl, (by omega), (by omega), (by omega), (by omega), (by omega), (by omega)⟩ rfl (fun r14 σ13 hr14 hor14 => ?_)
        obtain ⟨v15, rfl, hfσ13, hpr14⟩ := hr14
        have H27 := hpr14
        have hsσ13 : σ = σ13 := (funext (fun k => funext (fun j => hfσ13 k j not_false))).symm
        subst hsσ13
        rcases hpr14 with ⟨rfl, hpr14⟩ | ⟨rfl, hpr14⟩
        · skip
          refine dk_if_eq (tgt := 37) (pc' := 33) hE dX11_readWorks_30 (by decide) rfl (fun hc16 => absurd hc16 (by decide)) (fun hc16 => ?_)
          refine dk_aload_n (pc' := 34) hE dX11_readWorks_33 rfl rfl rfl ?_
          refine dk_cV (pc' := 37) (as := []) hE lk_X11_257 (ct_X11_wrong l G hGd) dX11_readWorks_34 rfl is_141 rfl (by decide) (Nat.le_of_ble_eq_true rfl) rfl rfl (fun r18 σ17 hr18 hor18 => ?_)
          obtain ⟨rfl, hfσ17, hpr18⟩ := hr18
          have gi19 : RX r σ σ17 := RX_f (RX_of hT hTI) hfσ17 hpr18
          refine dk_aload_n (pc' := 38) hE dX11_readWorks_37 rfl rfl rfl ?_
          refine dk_cV (pc' := 41) (as := []) hE lk_X11_250 (ct_X11_isGood l G hGd) dX11_readWorks_38 rfl is_141 rfl (by decide) (Nat.le_of_ble_eq_true rfl) rfl rfl (fun r21 σ20 hr21 hor21 => ?_)
          obtain ⟨v22, rfl, hfσ20, hpr21⟩ := hr21
          have hsσ20 : σ17 = σ20 := (funext (fun k => funext (fun j => hfσ20 k j not_false))).symm
          subst hsσ20
          rcases hpr21 with ⟨rfl, hpr21⟩ | ⟨rfl, hpr21⟩
          · skip
            refine dk_if_ne (tgt := 45) (pc' := 44) hE dX11_readWorks_41 (by decide) rfl (fun hc23 => ?_) (fun hc23 => absurd hc23 (by decide))
            refine dk_aload_n (pc' := 46) hE dX11_readWorks_45 rfl rfl rfl ?_
            have hz24 : σ17 141 7 = σ 141 7 := by rw [hfσ17 141 7 (by omega)]
            have hz25 : σ17 141 3 = σ 141 3 := by rw [hfσ17 141 3 (by omega)]
            have hz26 : σ17 141 3 = σ 141 3 := by rw [hfσ17 141 3 (by omega)]
            refine dk_cV (pc' := 49) (as := []) hE lk_X11_254 (ct_X11_next l G hGd) dX11_readWorks_46 rfl is_141 rfl (by decide) (Nat.le_of_ble_eq_true rfl) ⟨rfl, ((NX_tk (gi19).1).2.1), (by omega)⟩ rfl (fun r28 σ27 hr28 hor28 => ?_)
            obtain ⟨rfl, hfσ27, hpr28⟩ := hr28
            have H46 := hpr28
            have gi29 : RX r σ σ27 := RX_y gi19 hpr28 (fun k_ j_ h_ => hfσ27 k_ j_ (by omega))
            have hB : RX r σ σ27 := gi29
            have gi30 : RX r σ27 σ27 := RX_of (NX_tk hB.1) hB.2
            refine dk_iload_n (pc' := 50) hE dX11_readWorks_49 rfl rfl rfl ?_
            refine dk_if_eq (tgt := 60) (pc' := 53) hE dX11_readWorks_50 (by decide) rfl (fun hc31 => absurd hc31 (by decide)) (fun hc31 => ?_)
            refine dk_aload_n (pc' := 54) hE dX11_readWorks_53 rfl rfl rfl ?_
            have hz32 : σ27 141 3 = σ 141 3 := by rw [hfσ27 141 3 (by omega), hfσ17 141 3 (by omega)]
            refine dk_cV (pc' := 57) (as := []) hE lk_X11_288 (ct_X11_readFloor l G hGd) dX11_readWorks_54 rfl is_141 rfl (by decide) (Nat.le_of_ble_eq_true rfl) ⟨rfl, (NX_tk (gi30).1), (by omega)⟩ rfl (fun r34 σ33 hr34 hor34 => ?_)
            obtain ⟨rfl, hfσ33, hpr34⟩ := hr34
            have gi35 : RX r σ27 σ33 := RX_tr gi30 hpr34 (fun k_ j_ h_ => hfσ33 k_ j_ (by omega))
            refine dk_goto (tgt := 76) hE dX11_readWorks_57 (by decide) ?_
            refine dk_aload_n (pc' := 77) hE dX11_readWorks_76 rfl rfl rfl ?_
            refine dk_aload_n (pc' := 78) hE dX11_readWorks_77 rfl rfl rfl ?_
            refine dk_bipush (pc' := 80) hE dX11_readWorks_78 (by decide) rfl ?_
            refine dk_cV (pc' := 83) (as := [(0, 59)]) hE lk_X11_298 (ct_X11_is l G hGd 59) dX11_readWorks_80 rfl is_141 rfl (by decide) (Nat.le_of_ble_eq_true rfl) rfl rfl (fun r37 σ36 hr37 hor37 => ?_)
            obtain ⟨v38, rfl, hfσ36, hpr37⟩ := hr37
            have hsσ36 : σ33 = σ36 := (funext (fun k => funext (fun j => hfσ36 k j not_false))).symm
            subst hsσ36
            rcases hpr37 with ⟨rfl, hpr37⟩ | rfl
            · skip
              have hz39 : σ33 141 3 = σ 141 3 := by rw [hfσ33 141 3 (by omega), hfσ27 141 3 (by omega), hfσ17 141 3 (by omega)]
              refine dk_cV (pc' := 86) (as := [(0, 1)]) hE lk_X11_301 (ct_X11_must l G hGd 1) dX11_readWorks_83 rfl is_141 rfl (by decide) (Nat.le_of_ble_eq_true rfl) ⟨rfl, (NX_tk (gi35).1), (by omega)⟩ rfl (fun r41 σ40 hr41 hor41 => ?_)
              obtain ⟨rfl, hfσ40, hpr41⟩ := hr41
              have gi42 : RX r σ27 σ40 := RX_tr gi35 hpr41 (fun k_ j_ h_ => hfσ40 k_ j_ (by omega))
              refine dk_aload_n (pc' := 87) hE dX11_readWorks_86 rfl rfl rfl ?_
              refine gf_11_11 (pc' := 90) (w := 144) hE fl_X11_20 dX11_readWorks_87 is_141 rfl rfl ?_
              refine dk_aload_n (pc' := 91) hE dX11_readWorks_90 rfl rfl rfl ?_
              refine gf_11_28 (pc' := 94) hE fl_X11_269 dX11_readWorks_91 is_141 rfl (fun v43 hv43 htv43 hbv43 => ?_)
              have hq43 : r = v43 := (show v43 = r by rw [hv43, hfσ40 141 28 (by omega), hfσ33 141 28 (by omega), hfσ27 141 28 (by omega), hfσ17 141 28 (by omega), hr]).symm
              subst hq43
              clear htv43 hbv43
              refine dk_dup2 (pc' := 95) hE dX11_readWorks_94 (show (0 : Nat) ≠ 3 by decide) (show (4 : Nat) ≠ 3 by decide) rfl ?_
              refine ga_72 (pc' := 96) hE dX11_readWorks_95 is_144 (by omega) rfl (fun v44 hv44 htv44 hbv44 => ?_)
              refine dk_iconst (pc' := 97) hE dX11_readWorks_96 (by decide) rfl ?_
              refine dk_iaddW (pc' := 98) hE dX11_readWorks_97 rfl (fun v45 hv45 _ => ?_)
              refine pa_72 (pc' := 99) hE dX11_readWorks_98 is_144 (by omega) trivial rfl (fun σ46 eσ46 => ?_)
              have hz47 : σ46 147 r = n := by rw [eσ46, dk_up_n (show ¬ (147 = 144 ∧ r = r) by omega), hfσ40 147 r (by omega), hfσ33 147 r (by omega), hfσ27 147 r (by omega), hfσ17 147 r (by omega), hn]
              have hz48 : σ46 145 r = w := by rw [eσ46, dk_up_n (show ¬ (145 = 144 ∧ r = r) by omega), hfσ40 145 r (by omega), hfσ33 145 r (by omega), hfσ27 145 r (by omega), hfσ17 145 r (by omega), hw]
              have hz49 : σ46 146 r = q := by rw [eσ46, dk_up_n (show ¬ (146 = 144 ∧ r = r) by omega), hfσ40 146 r (by omega), hfσ33 146 r (by omega), hfσ27 146 r (by omega), hfσ17 146 r (by omega), hq]
              have gi50 : RX r σ27 σ46 := RX_fr gi42 (fun k_ j_ h_ => by rw [eσ46, dk_up_n (show ¬ (k_ = 144 ∧ j_ = r) by omega)])
              exact dk_vret (st := []) hE hR dX11_readWorks_99 ⟨rfl, (fun k_ j_ h_ => by rw [eσ46, dk_up_n (show ¬ (k_ = 144 ∧ j_ = r) from fun q_ => h_ (Or.inr (Or.inr (Or.inr (Or.inr (Or.inr (Or.inr (Or.inr (dk_wr (lo := 144) (hi := 159) q_.1 (by decide)))))))))), hfσ40 k_ j_ (fun w_ => h_ (w_.elim (fun x0_ => Or.inl (x0_)) (fun y0_ => y0_.elim (fun x1_ => Or.inr (Or.inl (x1_))) (fun y1_ => y1_.elim (fun x2_ => Or.inr (Or.inr (Or.inl (x2_)))) (fun y2_ => y2_.elim (fun x3_ => Or.inr (Or.inr (Or.inr (Or.inl (x3_))))) (fun y3_ => y3_.elim (fun x4_ => Or.inr (Or.inr (Or.inr (Or.inr (Or.inl (x4_)))))) (fun y4_ => y4_.elim (fun x5_ => Or.inr (Or.inr (Or.inr (Or.inr (Or.inr (Or.inl (x5_))))))) (fun y5_ => Or.inr (Or.inr (Or.inr (Or.inr (Or.inr (Or.inr (Or.inl (y5_))))))))))))))), hfσ33 k_ j_ (fun w_ => h_ (w_.elim (fun x0_ => Or.inl (x0_)) (fun y0_ => y0_.elim (fun x1_ => Or.inr (Or.inl (x1_))) (fun y1_ => y1_.elim (fun x2_ => Or.inr (Or.inr (Or.inl (x2_)))) (fun y2_ => y2_.elim (fun x3_ => Or.inr (Or.inr (Or.inr (Or.inl (x3_))))) (fun y3_ => y3_.elim (fun x4_ => Or.inr (Or.inr (Or.inr (Or.inr (Or.inl (x4_)))))) (fun y4_ => y4_.elim (fun x5_ => Or.inr (Or.inr (Or.inr (Or.inr (Or.inr (Or.inl (x5_))))))) (fun y5_ => y5_.elim (fun x6_ => Or.inr (Or.inr (Or.inr (Or.inr (Or.inr (Or.inr (Or.inl (x6_)))))))) (fun y6_ => y6_.elim (fun x7_ => Or.inr (Or.inr (Or.inr (Or.inr (Or.inr (Or.inr (Or.inr (dk_wrr (lo := 144) (hi := 159) x7_ (by decide) (by decide))))))))) (fun y7_ => Or.inr (Or.inr (Or.inr (Or.inr (Or.inr (Or.inr (Or.inr (dk_wr (lo := 144) (hi := 159) y7_ (by decide)))))))))))))))))), hfσ27 k_ j_ (fun w_ => h_ (w_.elim (fun x0_ => Or.inr (Or.inr (Or.inl (x0_)))) (fun y0_ => y0_.elim (fun x1_ => Or.inr (Or.inr (Or.inr (Or.inl (x1_))))) (fun y1_ => y1_.elim (fun x2_ => Or.inr (Or.inr (Or.inr (Or.inr (Or.inl (x2_)))))) (fun y2_ => y2_.elim (fun x3_ => Or.inr (Or.inr (Or.inr (Or.inr (Or.inr (Or.inl (x3_))))))) (fun y3_ => Or.inr (Or.inr (Or.inr (Or.inr (Or.inr (Or.inr (Or.inl (y3_))))))))))))), hfσ17 k_ j_ (fun w_ => h_ (w_.elim (fun x0_ => Or.inl (x0_)) (fun y0_ => Or.inr (Or.inl (y0_)))))]), ⟨RX_rx hB gi50, fun a_ q_ => Or.inr (by have x_ := (gi50).1.2.2.1; have t_ := hT.2.2 q_; have y_ := H46.2.2.1; omega), by omega⟩⟩
            · skip
              have hz51 : σ33 141 3 = σ 141 3 := by rw [hfσ33 141 3 (by omega), hfσ27 141 3 (by omega), hfσ17 141 3 (by omega)]
              refine dk_cV (pc' := 86) (as := [(0, 0)]) hE lk_X11_301 (ct_X11_must l G hGd 0) dX11_readWorks_83 rfl is_141 rfl (by decide) (Nat.le_of_ble_eq_true rfl) ⟨rfl, (NX_tk (gi35).1), (by omega)⟩ rfl (fun r53 σ52 hr53 hor53 => ?_)
              obtain ⟨rfl, hfσ52, hpr53⟩ := hr53
              have gi54 : RX r σ27 σ52 := RX_tr gi35 hpr53 (fun k_ j_ h_ => hfσ52 k_ j_ (by omega))
              refine dk_aload_n (pc' := 87) hE dX11_readWorks_86 rfl rfl rfl ?_
              refine gf_11_11 (pc' := 90) (w := 144) hE fl_X11_20 dX11_readWorks_87 is_141 rfl rfl ?_
              refine dk_aload_n (pc' := 91) hE dX11_readWorks_90 rfl rfl rfl ?_
              refine gf_11_28 (pc' := 94) hE fl_X11_269 dX11_readWorks_91 is_141 rfl (fun v55 hv55 htv55 hbv55 => ?_)
              have hq55 : r = v55 := (show v55 = r by rw [hv55, hfσ52 141 28 (by omega), hfσ33 141 28 (by omega), hfσ27 141 28 (by omega), hfσ17 141 28 (by omega), hr]).symm
              subst hq55
              clear htv55 hbv55
              refine dk_dup2 (pc' := 95) hE dX11_readWorks_94 (show (0 : Nat) ≠ 3 by decide) (show (4 : Nat) ≠ 3 by decide) rfl ?_
              refine ga_72 (pc' := 96) hE dX11_readWorks_95 is_144 (by omega) rfl (fun v56 hv56 htv56 hbv56 => ?_)
              refine dk_iconst (pc' := 97) hE dX11_readWorks_96 (by decide) rfl ?_
              refine dk_iaddW (pc' := 98) hE dX11_readWorks_97 rfl (fun v57 hv57 _ => ?_)
              refine pa_72 (pc' := 99) hE dX11_readWorks_98 is_144 (by omega) trivial rfl (fun σ58 eσ58 => ?_)
              have hz59 : σ58 147 r = n := by rw [eσ58, dk_up_n (show ¬ (147 = 144 ∧ r = r) by omega), hfσ52 147 r (by omega), hfσ33 147 r (by omega), hfσ27 147 r (by omega), hfσ17 147 r (by omega), hn]
              have hz60 : σ58 145 r = w := by rw [eσ58, dk_up_n (show ¬ (145 = 144 ∧ r = r) by omega), hfσ52 145 r (by omega), hfσ33 145 r (by omega), hfσ27 145 r (by omega), hfσ17 145 r (by omega), hw]
              have hz61 : σ58 146 r = q := by rw [eσ58, dk_up_n (show ¬ (146 = 144 ∧ r = r) by omega), hfσ52 146 r (by omega), hfσ33 146 r (by omega), hfσ27 146 r (by omega), hfσ17 146 r (by omega), hq]
              have gi62 : RX r σ27 σ58 := RX_fr gi54 (fun k_ j_ h_ => by rw [eσ58, dk_up_n (show ¬ (k_ = 144 ∧ j_ = r) by omega)])
              exact dk_vret (st := []) hE hR dX11_readWorks_99 ⟨rfl, (fun k_ j_ h_ => by rw [eσ58, dk_up_n (show ¬ (k_ = 144 ∧ j_ = r) from fun q_ => h_ (Or.inr (Or.inr (Or.inr (Or.inr (Or.inr (Or.inr (Or.inr (dk_wr (lo := 144) (hi := 159) q_.1 (by decide)))))))))), hfσ52 k_ j_ (fun w_ => h_ (w_.elim (fun x0_ => Or.inl (x0_)) (fun y0_ => y0_.elim (fun x1_ => Or.inr (Or.inl (x1_))) (fun y1_ => y1_.elim (fun x2_ => Or.inr (Or.inr (Or.inl (x2_)))) (fun y2_ => y2_.elim (fun x3_ => Or.inr (Or.inr (Or.inr (Or.inl (x3_))))) (fun y3_ => y3_.elim (fun x4_ => Or.inr (Or.inr (Or.inr (Or.inr (Or.inl (x4_)))))) (fun y4_ => y4_.elim (fun x5_ => Or.inr (Or.inr (Or.inr (Or.inr (Or.inr (Or.inl (x5_))))))) (fun y5_ => Or.inr (Or.inr (Or.inr (Or.inr (Or.inr (Or.inr (Or.inl (y5_))))))))))))))), hfσ33 k_ j_ (fun w_ => h_ (w_.elim (fun x0_ => Or.inl (x0_)) (fun y0_ => y0_.elim (fun x1_ => Or.inr (Or.inl (x1_))) (fun y1_ => y1_.elim (fun x2_ => Or.inr (Or.inr (Or.inl (x2_)))) (fun y2_ => y2_.elim (fun x3_ => Or.inr (Or.inr (Or.inr (Or.inl (x3_))))) (fun y3_ => y3_.elim (fun x4_ => Or.inr (Or.inr (Or.inr (Or.inr (Or.inl (x4_)))))) (fun y4_ => y4_.elim (fun x5_ => Or.inr (Or.inr (Or.inr (Or.inr (Or.inr (Or.inl (x5_))))))) (fun y5_ => y5_.elim (fun x6_ => Or.inr (Or.inr (Or.inr (Or.inr (Or.inr (Or.inr (Or.inl (x6_)))))))) (fun y6_ => y6_.elim (fun x7_ => Or.inr (Or.inr (Or.inr (Or.inr (Or.inr (Or.inr (Or.inr (dk_wrr (lo := 144) (hi := 159) x7_ (by decide) (by decide))))))))) (fun y7_ => Or.inr (Or.inr (Or.inr (Or.inr (Or.inr (Or.inr (Or.inr (dk_wr (lo := 144) (hi := 159) y7_ (by decide)))))))))))))))))), hfσ27 k_ j_ (fun w_ => h_ (w_.elim (fun x0_ => Or.inr (Or.inr (Or.inl (x0_)))) (fun y0_ => y0_.elim (fun x1_ => Or.inr (Or.inr (Or.inr (Or.inl (x1_))))) (fun y1_ => y1_.elim (fun x2_ => Or.inr (Or.inr (Or.inr (Or.inr (Or.inl (x2_)))))) (fun y2_ => y2_.elim (fun x3_ => Or.inr (Or.inr (Or.inr (Or.inr (Or.inr (Or.inl (x3_))))))) (fun y3_ => Or.inr (Or.inr (Or.inr (Or.inr (Or.inr (Or.inr (Or.inl (y3_))))))))))))), hfσ17 k_ j_ (fun w_ => h_ (w_.elim (fun x0_ => Or.inl (x0_)) (fun y0_ => Or.inr (Or.inl (y0_)))))]), ⟨RX_rx hB gi62, fun a_ q_ => Or.inr (by have x_ := (gi62).1.2.2.1; have t_ := hT.2.2 q_; have y_ := H46.2.2.1; omega), by omega⟩⟩
          · skip
            refine dk_if_ne (tgt := 45) (pc' := 44) hE dX11_readWorks_41 (by decide) rfl (fun hc63 => absurd hc63 (by decide)) (fun hc63 => ?_)
            have hz64 : σ17 147 r = n := by rw [hfσ17 147 r (by omega), hn]
            have hz65 : σ17 145 r = w := by rw [hfσ17 145 r (by omega), hw]
            have hz66 : σ17 146 r = q := by rw [hfσ17 146 r (by omega), hq]
            exact dk_vret (st := []) hE hR dX11_readWorks_44 ⟨rfl, (fun k_ j_ h_ => by rw [hfσ17 k_ j_ (fun w_ => h_ (w_.elim (fun x0_ => Or.inl (x0_)) (fun y0_ => Or.inr (Or.inl (y0_)))))]), ⟨gi19, fun a_ q_ => Or.inl (by omega), by omega⟩⟩
        · skip
          refine dk_if_eq (tgt := 37) (pc' := 33) hE dX11_readWorks_30 (by decide) rfl (fun hc67 => ?_) (fun hc67 => absurd hc67 (by decide))
          refine dk_aload_n (pc' := 38) hE dX11_readWorks_37 rfl rfl rfl ?_
          refine dk_cV (pc' := 41) (as := []) hE lk_X11_250 (ct_X11_isGood l G hGd) dX11_readWorks_38 rfl is_141 rfl (by decide) (Nat.le_of_ble_eq_true rfl) rfl rfl (fun r69 σ68 hr69 hor69 => ?_)
          obtain ⟨v70, rfl, hfσ68, hpr69⟩ := hr69
          have hsσ68 : σ = σ68 := (funext (fun k => funext (fun j => hfσ68 k j not_false))).symm
          subst hsσ68
          rcases hpr69 with ⟨rfl, hpr69⟩ | ⟨rfl, hpr69⟩
          · skip
            refine dk_if_ne (tgt := 45) (pc' := 44) hE dX11_readWorks_41 (by decide) rfl (fun hc71 => ?_) (fun hc71 => absurd hc71 (by decide))
            refine dk_aload_n (pc' := 46) hE dX11_readWorks_45 rfl rfl rfl ?_
            refine dk_cV (pc' := 49) (as := []) hE lk_X11_254 (ct_X11_next l G hGd) dX11_readWorks_46 rfl is_141 rfl (by decide) (Nat.le_of_ble_eq_true rfl) ⟨rfl, ((NX_tk ((RX_of hT hTI)).1).2.1), (by omega)⟩ rfl (fun r73 σ72 hr73 hor73 => ?_)
            obtain ⟨rfl, hfσ72, hpr73⟩ := hr73
            have H46 := hpr73
            have gi74 : RX r σ σ72 := RX_y (RX_of hT hTI) hpr73 (fun k_ j_ h_ => hfσ72 k_ j_ (by omega))
            have hB : RX r σ σ72 := gi74
            have gi75 : RX r σ72 σ72 := RX_of (NX_tk hB.1) hB.2
            refine dk_iload_n (pc' := 50) hE dX11_readWorks_49 rfl rfl rfl ?_
            refine dk_if_eq (tgt := 60) (pc' := 53) hE dX11_readWorks_50 (by decide) rfl (fun hc76 => absurd hc76 (by decide)) (fun hc76 => ?_)
            refine dk_aload_n (pc' := 54) hE dX11_readWorks_53 rfl rfl rfl ?_
            have hz77 : σ72 141 3 = σ 141 3 := by rw [hfσ72 141 3 (by omega)]
            refine dk_cV (pc' := 57) (as := []) hE lk_X11_288 (ct_X11_readFloor l G hGd) dX11_readWorks_54 rfl is_141 rfl (by decide) (Nat.le_of_ble_eq_true rfl) ⟨rfl, (NX_tk (gi75).1), (by omega)⟩ rfl (fun r79 σ78 hr79 hor79 => ?_)
            obtain ⟨rfl, hfσ78, hpr79⟩ := hr79
            have gi80 : RX r σ72 σ78 := RX_tr gi75 hpr79 (fun k_ j_ h_ => hfσ78 k_ j_ (by omega))
            refine dk_goto (tgt := 76) hE dX11_readWorks_57 (by decide) ?_
            refine dk_aload_n (pc' := 77) hE dX11_readWorks_76 rfl rfl rfl ?_
            refine dk_aload_n (pc' := 78) hE dX11_readWorks_77 rfl rfl rfl ?_
            refine dk_bipush (pc' := 80) hE dX11_readWorks_78 (by decide) rfl ?_
            refine dk_cV (pc' := 83) (as := [(0, 59)]) hE lk_X11_298 (ct_X11_is l G hGd 59) dX11_readWorks_80 rfl is_141 rfl (by decide) (Nat.le_of_ble_eq_true rfl) rfl rfl (fun r82 σ81 hr82 hor82 => ?_)
            obtain ⟨v83, rfl, hfσ81, hpr82⟩ := hr82
            have hsσ81 : σ78 = σ81 := (funext (fun k => funext (fun j => hfσ81 k j not_false))).symm
            subst hsσ81
            rcases hpr82 with ⟨rfl, hpr82⟩ | rfl
            · skip
              have hz84 : σ78 141 3 = σ 141 3 := by rw [hfσ78 141 3 (by omega), hfσ72 141 3 (by omega)]
              refine dk_cV (pc' := 86) (as := [(0, 1)]) hE lk_X11_301 (ct_X11_must l G hGd 1) dX11_readWorks_83 rfl is_141 rfl (by decide) (Nat.le_of_ble_eq_true rfl) ⟨rfl, (NX_tk (gi80).1), (by omega)⟩ rfl (fun r86 σ85 hr86 hor86 => ?_)
              obtain ⟨rfl, hfσ85, hpr86⟩ := hr86
              have gi87 : RX r σ72 σ85 := RX_tr gi80 hpr86 (fun k_ j_ h_ => hfσ85 k_ j_ (by omega))
              refine dk_aload_n (pc' := 87) hE dX11_readWorks_86 rfl rfl rfl ?_
              refine gf_11_11 (pc' := 90) (w := 144) hE fl_X11_20 dX11_readWorks_87 is_141 rfl rfl ?_
              refine dk_aload_n (pc' := 91) hE dX11_readWorks_90 rfl rfl rfl ?_
              refine gf_11_28 (pc' := 94) hE fl_X11_269 dX11_readWorks_91 is_141 rfl (fun v88 hv88 htv88 hbv88 => ?_)
              have hq88 : r = v88 := (show v88 = r by rw [hv88, hfσ85 141 28 (by omega), hfσ78 141 28 (by omega), hfσ72 141 28 (by omega), hr]).symm
              subst hq88
              clear htv88 hbv88
              refine dk_dup2 (pc' := 95) hE dX11_readWorks_94 (show (0 : Nat) ≠ 3 by decide) (show (4 : Nat) ≠ 3 by decide) rfl ?_
              refine ga_72 (pc' := 96) hE dX11_readWorks_95 is_144 (by omega) rfl (fun v89 hv89 htv89 hbv89 => ?_)
              refine dk_iconst (pc' := 97) hE dX11_readWorks_96 (by decide) rfl ?_
              refine dk_iaddW (pc' := 98) hE dX11_readWorks_97 rfl (fun v90 hv90 _ => ?_)
              refine pa_72 (pc' := 99) hE dX11_readWorks_98 is_144 (by omega) trivial rfl (fun σ91 eσ91 => ?_)
              have hz92 : σ91 147 r = n := by rw [eσ91, dk_up_n (show ¬ (147 = 144 ∧ r = r) by omega), hfσ85 147 r (by omega), hfσ78 147 r (by omega), hfσ72 147 r (by omega), hn]
              have hz93 : σ91 145 r = w := by rw [eσ91, dk_up_n (show ¬ (145 = 144 ∧ r = r) by omega), hfσ85 145 r (by omega), hfσ78 145 r (by omega), hfσ72 145 r (by omega), hw]
              have hz94 : σ91 146 r = q := by rw [eσ91, dk_up_n (show ¬ (146 = 144 ∧ r = r) by omega), hfσ85 146 r (by omega), hfσ78 146 r (by omega), hfσ72 146 r (by omega), hq]
              have gi95 : RX r σ72 σ91 := RX_fr gi87 (fun k_ j_ h_ => by rw [eσ91, dk_up_n (show ¬ (k_ = 144 ∧ j_ = r) by omega)])
              exact dk_vret (st := []) hE hR dX11_readWorks_99 ⟨rfl, (fun k_ j_ h_ => by rw [eσ91, dk_up_n (show ¬ (k_ = 144 ∧ j_ = r) from fun q_ => h_ (Or.inr (Or.inr (Or.inr (Or.inr (Or.inr (Or.inr (Or.inr (dk_wr (lo := 144) (hi := 159) q_.1 (by decide)))))))))), hfσ85 k_ j_ (fun w_ => h_ (w_.elim (fun x0_ => Or.inl (x0_)) (fun y0_ => y0_.elim (fun x1_ => Or.inr (Or.inl (x1_))) (fun y1_ => y1_.elim (fun x2_ => Or.inr (Or.inr (Or.inl (x2_)))) (fun y2_ => y2_.elim (fun x3_ => Or.inr (Or.inr (Or.inr (Or.inl (x3_))))) (fun y3_ => y3_.elim (fun x4_ => Or.inr (Or.inr (Or.inr (Or.inr (Or.inl (x4_)))))) (fun y4_ => y4_.elim (fun x5_ => Or.inr (Or.inr (Or.inr (Or.inr (Or.inr (Or.inl (x5_))))))) (fun y5_ => Or.inr (Or.inr (Or.inr (Or.inr (Or.inr (Or.inr (Or.inl (y5_))))))))))))))), hfσ78 k_ j_ (fun w_ => h_ (w_.elim (fun x0_ => Or.inl (x0_)) (fun y0_ => y0_.elim (fun x1_ => Or.inr (Or.inl (x1_))) (fun y1_ => y1_.elim (fun x2_ => Or.inr (Or.inr (Or.inl (x2_)))) (fun y2_ => y2_.elim (fun x3_ => Or.inr (Or.inr (Or.inr (Or.inl (x3_))))) (fun y3_ => y3_.elim (fun x4_ => Or.inr (Or.inr (Or.inr (Or.inr (Or.inl (x4_)))))) (fun y4_ => y4_.elim (fun x5_ => Or.inr (Or.inr (Or.inr (Or.inr (Or.inr (Or.inl (x5_))))))) (fun y5_ => y5_.elim (fun x6_ => Or.inr (Or.inr (Or.inr (Or.inr (Or.inr (Or.inr (Or.inl (x6_)))))))) (fun y6_ => y6_.elim (fun x7_ => Or.inr (Or.inr (Or.inr (Or.inr (Or.inr (Or.inr (Or.inr (dk_wrr (lo := 144) (hi := 159) x7_ (by decide) (by decide))))))))) (fun y7_ => Or.inr (Or.inr (Or.inr (Or.inr (Or.inr (Or.inr (Or.inr (dk_wr (lo := 144) (hi := 159) y7_ (by decide)))))))))))))))))), hfσ72 k_ j_ (fun w_ => h_ (w_.elim (fun x0_ => Or.inr (Or.inr (Or.inl (x0_)))) (fun y0_ => y0_.elim (fun x1_ => Or.inr (Or.inr (Or.inr (Or.inl (x1_))))) (fun y1_ => y1_.elim (fun x2_ => Or.inr (Or.inr (Or.inr (Or.inr (Or.inl (x2_)))))) (fun y2_ => y2_.elim (fun x3_ => Or.inr (Or.inr (Or.inr (Or.inr (Or.inr (Or.inl (x3_))))))) (fun y3_ => Or.inr (Or.inr (Or.inr (Or.inr (Or.inr (Or.inr (Or.inl (y3_)))))))))))))]), ⟨RX_rx hB gi95, fun a_ q_ => Or.inr (by have x_ := (gi95).1.2.2.1; have t_ := hT.2.2 q_; have y_ := H46.2.2.1; omega), by omega⟩⟩
            · skip
              have hz96 : σ78 141 3 = σ 141 3 := by rw [hfσ78 141 3 (by omega), hfσ72 141 3 (by omega)]
              refine dk_cV (pc' := 86) (as := [(0, 0)]) hE lk_X11_301 (ct_X11_must l G hGd 0) dX11_readWorks_83 rfl is_141 rfl (by decide) (Nat.le_of_ble_eq_true rfl) ⟨rfl, (NX_tk (gi80).1), (by omega)⟩ rfl (fun r98 σ97 hr98 hor98 => ?_)
              obtain ⟨rfl, hfσ97, hpr98⟩ := hr98
              have gi99 : RX r σ72 σ97 := RX_tr gi80 hpr98 (fun k_ j_ h_ => hfσ97 k_ j_ (by omega))
              refine dk_aload_n (pc' := 87) hE dX11_readWorks_86 rfl rfl rfl ?_
              refine gf_11_11 (pc' := 90) (w := 144) hE fl_X11_20 dX11_readWorks_87 is_141 rfl rfl ?_
              refine dk_aload_n (pc' := 91) hE dX11_readWorks_90 rfl rfl rfl ?_
              refine gf_11_28 (pc' := 94) hE fl_X11_269 dX11_readWorks_91 is_141 rfl (fun v100 hv100 htv100 hbv100 => ?_)
              have hq100 : r = v100 := (show v100 = r by rw [hv100, hfσ97 141 28 (by omega), hfσ78 141 28 (by omega), hfσ72 141 28 (by omega), hr]).symm
              subst hq100
              clear htv100 hbv100
              refine dk_dup2 (pc' := 95) hE dX11_readWorks_94 (show (0 : Nat) ≠ 3 by decide) (show (4 : Nat) ≠ 3 by decide) rfl ?_
              refine ga_72 (pc' := 96) hE dX11_readWorks_95 is_144 (by omega) rfl (fun v101 hv101 htv101 hbv101 => ?_)
              refine dk_iconst (pc' := 97) hE dX11_readWorks_96 (by decide) rfl ?_
              refine dk_iaddW (pc' := 98) hE dX11_readWorks_97 rfl (fun v102 hv102 _ => ?_)
              refine pa_72 (pc' := 99) hE dX11_readWorks_98 is_144 (by omega) trivial rfl (fun σ103 eσ103 => ?_)
              have hz104 : σ103 147 r = n := by rw [eσ103, dk_up_n (show ¬ (147 = 144 ∧ r = r) by omega), hfσ97 147 r (by omega), hfσ78 147 r (by omega), hfσ72 147 r (by omega), hn]
              have hz105 : σ103 145 r = w := by rw [eσ103, dk_up_n (show ¬ (145 = 144 ∧ r = r) by omega), hfσ97 145 r (by omega), hfσ78 145 r (by omega), hfσ72 145 r (by omega), hw]
              have hz106 : σ103 146 r = q := by rw [eσ103, dk_up_n (show ¬ (146 = 144 ∧ r = r) by omega), hfσ97 146 r (by omega), hfσ78 146 r (by omega), hfσ72 146 r (by omega), hq]
              have gi107 : RX r σ72 σ103 := RX_fr gi99 (fun k_ j_ h_ => by rw [eσ103, dk_up_n (show ¬ (k_ = 144 ∧ j_ = r) by omega)])
              exact dk_vret (st := []) hE hR dX11_readWorks_99 ⟨rfl, (fun k_ j_ h_ => by rw [eσ103, dk_up_n (show ¬ (k_ = 144 ∧ j_ = r) from fun q_ => h_ (Or.inr (Or.inr (Or.inr (Or.inr (Or.inr (Or.inr (Or.inr (dk_wr (lo := 144) (hi := 159) q_.1 (by decide)))))))))), hfσ97 k_ j_ (fun w_ => h_ (w_.elim (fun x0_ => Or.inl (x0_)) (fun y0_ => y0_.elim (fun x1_ => Or.inr (Or.inl (x1_))) (fun y1_ => y1_.elim (fun x2_ => Or.inr (Or.inr (Or.inl (x2_)))) (fun y2_ => y2_.elim (fun x3_ => Or.inr (Or.inr (Or.inr (Or.inl (x3_))))) (fun y3_ => y3_.elim (fun x4_ => Or.inr (Or.inr (Or.inr (Or.inr (Or.inl (x4_)))))) (fun y4_ => y4_.elim (fun x5_ => Or.inr (Or.inr (Or.inr (Or.inr (Or.inr (Or.inl (x5_))))))) (fun y5_ => Or.inr (Or.inr (Or.inr (Or.inr (Or.inr (Or.inr (Or.inl (y5_))))))))))))))), hfσ78 k_ j_ (fun w_ => h_ (w_.elim (fun x0_ => Or.inl (x0_)) (fun y0_ => y0_.elim (fun x1_ => Or.inr (Or.inl (x1_))) (fun y1_ => y1_.elim (fun x2_ => Or.inr (Or.inr (Or.inl (x2_)))) (fun y2_ => y2_.elim (fun x3_ => Or.inr (Or.inr (Or.inr (Or.inl (x3_))))) (fun y3_ => y3_.elim (fun x4_ => Or.inr (Or.inr (Or.inr (Or.inr (Or.inl (x4_)))))) (fun y4_ => y4_.elim (fun x5_ => Or.inr (Or.inr (Or.inr (Or.inr (Or.inr (Or.inl (x5_))))))) (fun y5_ => y5_.elim (fun x6_ => Or.inr (Or.inr (Or.inr (Or.inr (Or.inr (Or.inr (Or.inl (x6_)))))))) (fun y6_ => y6_.elim (fun x7_ => Or.inr (Or.inr (Or.inr (Or.inr (Or.inr (Or.inr (Or.inr (dk_wrr (lo := 144) (hi := 159) x7_ (by decide) (by decide))))))))) (fun y7_ => Or.inr (Or.inr (Or.inr (Or.inr (Or.inr (Or.inr (Or.inr (dk_wr (lo := 144) (hi := 159) y7_ (by decide)))))))))))))))))), hfσ72 k_ j_ (fun w_ => h_ (w_.elim (fun x0_ => Or.inr (Or.inr (Or.inl (x0_)))) (fun y0_ => y0_.elim (fun x1_ => Or.inr (Or.inr (Or.inr (Or.inl (x1_))))) (fun y1_ => y1_.elim (fun x2_ => Or.inr (Or.inr (Or.inr (Or.inr (Or.inl (x2_)))))) (fun y2_ => y2_.elim (fun x3_ => Or.inr (Or.inr (Or.inr (Or.inr (Or.inr (Or.inl (x3_))))))) (fun y3_ => Or.inr (Or.inr (Or.inr (Or.inr (Or.inr (Or.inr (Or.inl (y3_)))))))))))))]), ⟨RX_rx hB gi107, fun a_ q_ => Or.inr (by have x_ := (gi107).1.2.2.1; have t_ := hT.2.2 q_; have y_ := H46.2.2.1; omega), by omega⟩⟩
          · skip
            refine dk_if_ne (tgt := 45) (pc' := 44) hE dX11_readWorks_41 (by decide) rfl (fun hc108 => absurd hc108 (by decide)) (fun hc108 => ?_)
            have hz109 : σ 147 r = n := by rw [hn]
            have hz110 : σ 145 r = w := by rw [hw]
            have hz111 : σ 146 r = q := by rw [hq]
            exact dk_vret (st := []) hE hR dX11_readWorks_44 ⟨rfl, (fun k_ j_ h_ => rfl), ⟨(RX_of hT hTI), fun a_ q_ => Or.inl (by omega), by omega⟩⟩
      · skip
        refine dk_istore_n (pc' := 24) (ls' := [(4, 141), (0, 1), (0, 1), (0, 0)]) hE dX11_readWorks_23 rfl rfl (by decide) rfl ?_
        refine dk_aload_n (pc' := 25) hE dX11_readWorks_24 rfl rfl rfl ?_
        refine dk_iload_n (pc' := 26) hE dX11_readWorks_25 rfl rfl rfl ?_
        refine dk_iload_n (pc' := 27) hE dX11_readWorks_26 rfl rfl rfl ?_
        have hz112 : σ 141 28 = r := by rw [hr]
        have hz113 : σ 145 r = w := by rw [hw]
        have hz114 : σ 146 r = q := by rw [hq]
        refine dk_cV (pc' := 30) (as := [(0, 1), (0, 1)]) hE lk_X11_284 (ct_X11_isFull l G hGd 1 1 r w q) dX11_readWorks_27 rfl is_141 rfl (by decide) (Nat.le_of_ble_eq_true rfl) ⟨rfl, (by omega), (by omega), (by omega), (by omega), (by omega), (by omega)⟩ rfl (fun r116 σ115 hr116 hor116 => ?_)
        obtain ⟨v117, rfl, hfσ115, hpr116⟩ := hr116
        have H27 := hpr116
        have hsσ115 : σ = σ115 := (funext (fun k => funext (fun j => hfσ115 k j not_false))).symm
        subst hsσ115
        rcases hpr116 with ⟨rfl, hpr116⟩ | ⟨rfl, hpr116⟩
        · skip
          refine dk_if_eq (tgt := 37) (pc' := 33) hE dX11_readWorks_30 (by decide) rfl (fun hc118 => absurd hc118 (by decide)) (fun hc118 => ?_)
          refine dk_aload_n (pc' := 34) hE dX11_readWorks_33 rfl rfl rfl ?_
          refine dk_cV (pc' := 37) (as := []) hE lk_X11_257 (ct_X11_wrong l G hGd) dX11_readWorks_34 rfl is_141 rfl (by decide) (Nat.le_of_ble_eq_true rfl) rfl rfl (fun r120 σ119 hr120 hor120 => ?_)
          obtain ⟨rfl, hfσ119, hpr120⟩ := hr120
          have gi121 : RX r σ σ119 := RX_f (RX_of hT hTI) hfσ119 hpr120
          refine dk_aload_n (pc' := 38) hE dX11_readWorks_37 rfl rfl rfl ?_
          refine dk_cV (pc' := 41) (as := []) hE lk_X11_250 (ct_X11_isGood l G hGd) dX11_readWorks_38 rfl is_141 rfl (by decide) (Nat.le_of_ble_eq_true rfl) rfl rfl (fun r123 σ122 hr123 hor123 => ?_)
          obtain ⟨v124, rfl, hfσ122, hpr123⟩ := hr123
          have hsσ122 : σ119 = σ122 := (funext (fun k => funext (fun j => hfσ122 k j not_false))).symm
          subst hsσ122
          rcases hpr123 with ⟨rfl, hpr123⟩ | ⟨rfl, hpr123⟩
          · skip
            refine dk_if_ne (tgt := 45) (pc' := 44) hE dX11_readWorks_41 (by decide) rfl (fun hc125 => ?_) (fun hc125 => absurd hc125 (by decide))
            refine dk_aload_n (pc' := 46) hE dX11_readWorks_45 rfl rfl rfl ?_
            have hz126 : σ119 141 7 = σ 141 7 := by rw [hfσ119 141 7 (by omega)]
            have hz127 : σ119 141 3 = σ 141 3 := by rw [hfσ119 141 3 (by omega)]
            have hz128 : σ119 141 3 = σ 141 3 := by rw [hfσ119 141 3 (by omega)]
            refine dk_cV (pc' := 49) (as := []) hE lk_X11_254 (ct_X11_next l G hGd) dX11_readWorks_46 rfl is_141 rfl (by decide) (Nat.le_of_ble_eq_true rfl) ⟨rfl, ((NX_tk (gi121).1).2.1), (by omega)⟩ rfl (fun r130 σ129 hr130 hor130 => ?_)
            obtain ⟨rfl, hfσ129, hpr130⟩ := hr130
            have H46 := hpr130
            have gi131 : RX r σ σ129 := RX_y gi121 hpr130 (fun k_ j_ h_ => hfσ129 k_ j_ (by omega))
            have hB : RX r σ σ129 := gi131
            have gi132 : RX r σ129 σ129 := RX_of (NX_tk hB.1) hB.2
            refine dk_iload_n (pc' := 50) hE dX11_readWorks_49 rfl rfl rfl ?_
            refine dk_if_eq (tgt := 60) (pc' := 53) hE dX11_readWorks_50 (by decide) rfl (fun hc133 => absurd hc133 (by decide)) (fun hc133 => ?_)
            refine dk_aload_n (pc' := 54) hE dX11_readWorks_53 rfl rfl rfl ?_
            have hz134 : σ129 141 3 = σ 141 3 := by rw [hfσ129 141 3 (by omega), hfσ119 141 3 (by omega)]
            refine dk_cV (pc' := 57) (as := []) hE lk_X11_288 (ct_X11_readFloor l G hGd) dX11_readWorks_54 rfl is_141 rfl (by decide) (Nat.le_of_ble_eq_true rfl) ⟨rfl, (NX_tk (gi132).1), (by omega)⟩ rfl (fun r136 σ135 hr136 hor136 => ?_)
            obtain ⟨rfl, hfσ135, hpr136⟩ := hr136
            have gi137 : RX r σ129 σ135 := RX_tr gi132 hpr136 (fun k_ j_ h_ => hfσ135 k_ j_ (by omega))
            refine dk_goto (tgt := 76) hE dX11_readWorks_57 (by decide) ?_
            refine dk_aload_n (pc' := 77) hE dX11_readWorks_76 rfl rfl rfl ?_
            refine dk_aload_n (pc' := 78) hE dX11_readWorks_77 rfl rfl rfl ?_
            refine dk_bipush (pc' := 80) hE dX11_readWorks_78 (by decide) rfl ?_
            refine dk_cV (pc' := 83) (as := [(0, 59)]) hE lk_X11_298 (ct_X11_is l G hGd 59) dX11_readWorks_80 rfl is_141 rfl (by decide) (Nat.le_of_ble_eq_true rfl) rfl rfl (fun r139 σ138 hr139 hor139 => ?_)
            obtain ⟨v140, rfl, hfσ138, hpr139⟩ := hr139
            have hsσ138 : σ135 = σ138 := (funext (fun k => funext (fun j => hfσ138 k j not_false))).symm
            subst hsσ138
            rcases hpr139 with ⟨rfl, hpr139⟩ | rfl
            · skip
              have hz141 : σ135 141 3 = σ 141 3 := by rw [hfσ135 141 3 (by omega), hfσ129 141 3 (by omega), hfσ119 141 3 (by omega)]
              refine dk_cV (pc' := 86) (as := [(0, 1)]) hE lk_X11_301 (ct_X11_must l G hGd 1) dX11_readWorks_83 rfl is_141 rfl (by decide) (Nat.le_of_ble_eq_true rfl) ⟨rfl, (NX_tk (gi137).1), (by omega)⟩ rfl (fun r143 σ142 hr143 hor143 => ?_)
              obtain ⟨rfl, hfσ142, hpr143⟩ := hr143
              have gi144 : RX r σ129 σ142 := RX_tr gi137 hpr143 (fun k_ j_ h_ => hfσ142 k_ j_ (by omega))
              refine dk_aload_n (pc' := 87) hE dX11_readWorks_86 rfl rfl rfl ?_
              refine gf_11_11 (pc' := 90) (w := 144) hE fl_X11_20 dX11_readWorks_87 is_141 rfl rfl ?_
              refine dk_aload_n (pc' := 91) hE dX11_readWorks_90 rfl rfl rfl ?_
              refine gf_11_28 (pc' := 94) hE fl_X11_269 dX11_readWorks_91 is_141 rfl (fun v145 hv145 htv145 hbv145 => ?_)
              have hq145 : r = v145 := (show v145 = r by rw [hv145, hfσ142 141 28 (by omega), hfσ135 141 28 (by omega), hfσ129 141 28 (by omega), hfσ119 141 28 (by omega), hr]).symm
              subst hq145
              clear htv145 hbv145
              refine dk_dup2 (pc' := 95) hE dX11_readWorks_94 (show (0 : Nat) ≠ 3 by decide) (show (4 : Nat) ≠ 3 by decide) rfl ?_
              refine ga_72 (pc' := 96) hE dX11_readWorks_95 is_144 (by omega) rfl (fun v146 hv146 htv146 hbv146 => ?_)
              refine dk_iconst (pc' := 97) hE dX11_readWorks_96 (by decide) rfl ?_
              refine dk_iaddW (pc' := 98) hE dX11_readWorks_97 rfl (fun v147 hv147 _ => ?_)
              refine pa_72 (pc' := 99) hE dX11_readWorks_98 is_144 (by omega) trivial rfl (fun σ148 eσ148 => ?_)
              have hz149 : σ148 147 r = n := by rw [eσ148, dk_up_n (show ¬ (147 = 144 ∧ r = r) by omega), hfσ142 147 r (by omega), hfσ135 147 r (by omega), hfσ129 147 r (by omega), hfσ119 147 r (by omega), hn]
              have hz150 : σ148 145 r = w := by rw [eσ148, dk_up_n (show ¬ (145 = 144 ∧ r = r) by omega), hfσ142 145 r (by omega), hfσ135 145 r (by omega), hfσ129 145 r (by omega), hfσ119 145 r (by omega), hw]
              have hz151 : σ148 146 r = q := by rw [eσ148, dk_up_n (show ¬ (146 = 144 ∧ r = r) by omega), hfσ142 146 r (by omega), hfσ135 146 r (by omega), hfσ129 146 r (by omega), hfσ119 146 r (by omega), hq]
              have gi152 : RX r σ129 σ148 := RX_fr gi144 (fun k_ j_ h_ => by rw [eσ148, dk_up_n (show ¬ (k_ = 144 ∧ j_ = r) by omega)])
              exact dk_vret (st := []) hE hR dX11_readWorks_99 ⟨rfl, (fun k_ j_ h_ => by rw [eσ148, dk_up_n (show ¬ (k_ = 144 ∧ j_ = r) from fun q_ => h_ (Or.inr (Or.inr (Or.inr (Or.inr (Or.inr (Or.inr (Or.inr (dk_wr (lo := 144) (hi := 159) q_.1 (by decide)))))))))), hfσ142 k_ j_ (fun w_ => h_ (w_.elim (fun x0_ => Or.inl (x0_)) (fun y0_ => y0_.elim (fun x1_ => Or.inr (Or.inl (x1_))) (fun y1_ => y1_.elim (fun x2_ => Or.inr (Or.inr (Or.inl (x2_)))) (fun y2_ => y2_.elim (fun x3_ => Or.inr (Or.inr (Or.inr (Or.inl (x3_))))) (fun y3_ => y3_.elim (fun x4_ => Or.inr (Or.inr (Or.inr (Or.inr (Or.inl (x4_)))))) (fun y4_ => y4_.elim (fun x5_ => Or.inr (Or.inr (Or.inr (Or.inr (Or.inr (Or.inl (x5_))))))) (fun y5_ => Or.inr (Or.inr (Or.inr (Or.inr (Or.inr (Or.inr (Or.inl (y5_))))))))))))))), hfσ135 k_ j_ (fun w_ => h_ (w_.elim (fun x0_ => Or.inl (x0_)) (fun y0_ => y0_.elim (fun x1_ => Or.inr (Or.inl (x1_))) (fun y1_ => y1_.elim (fun x2_ => Or.inr (Or.inr (Or.inl (x2_)))) (fun y2_ => y2_.elim (fun x3_ => Or.inr (Or.inr (Or.inr (Or.inl (x3_))))) (fun y3_ => y3_.elim (fun x4_ => Or.inr (Or.inr (Or.inr (Or.inr (Or.inl (x4_)))))) (fun y4_ => y4_.elim (fun x5_ => Or.inr (Or.inr (Or.inr (Or.inr (Or.inr (Or.inl (x5_))))))) (fun y5_ => y5_.elim (fun x6_ => Or.inr (Or.inr (Or.inr (Or.inr (Or.inr (Or.inr (Or.inl (x6_)))))))) (fun y6_ => y6_.elim (fun x7_ => Or.inr (Or.inr (Or.inr (Or.inr (Or.inr (Or.inr (Or.inr (dk_wrr (lo := 144) (hi := 159) x7_ (by decide) (by decide))))))))) (fun y7_ => Or.inr (Or.inr (Or.inr (Or.inr (Or.inr (Or.inr (Or.inr (dk_wr (lo := 144) (hi := 159) y7_ (by decide)))))))))))))))))), hfσ129 k_ j_ (fun w_ => h_ (w_.elim (fun x0_ => Or.inr (Or.inr (Or.inl (x0_)))) (fun y0_ => y0_.elim (fun x1_ => Or.inr (Or.inr (Or.inr (Or.inl (x1_))))) (fun y1_ => y1_.elim (fun x2_ => Or.inr (Or.inr (Or.inr (Or.inr (Or.inl (x2_)))))) (fun y2_ => y2_.elim (fun x3_ => Or.inr (Or.inr (Or.inr (Or.inr (Or.inr (Or.inl (x3_))))))) (fun y3_ => Or.inr (Or.inr (Or.inr (Or.inr (Or.inr (Or.inr (Or.inl (y3_))))))))))))), hfσ119 k_ j_ (fun w_ => h_ (w_.elim (fun x0_ => Or.inl (x0_)) (fun y0_ => Or.inr (Or.inl (y0_)))))]), ⟨RX_rx hB gi152, fun a_ q_ => Or.inr (by have x_ := (gi152).1.2.2.1; have t_ := hT.2.2 q_; have y_ := H46.2.2.1; omega), by omega⟩⟩
            · skip
              have hz153 : σ135 141 3 = σ 141 3 := by rw [hfσ135 141 3 (by omega), hfσ129 141 3 (by omega), hfσ119 141 3 (by omega)]
              refine dk_cV (pc' := 86) (as := [(0, 0)]) hE lk_X11_301 (ct_X11_must l G hGd 0) dX11_readWorks_83 rfl is_141 rfl (by decide) (Nat.le_of_ble_eq_true rfl) ⟨rfl, (NX_tk (gi137).1), (by omega)⟩ rfl (fun r155 σ154 hr155 hor155 => ?_)
              obtain ⟨rfl, hfσ154, hpr155⟩ := hr155
              have gi156 : RX r σ129 σ154 := RX_tr gi137 hpr155 (fun k_ j_ h_ => hfσ154 k_ j_ (by omega))
              refine dk_aload_n (pc' := 87) hE dX11_readWorks_86 rfl rfl rfl ?_
              refine gf_11_11 (pc' := 90) (w := 144) hE fl_X11_20 dX11_readWorks_87 is_141 rfl rfl ?_
              refine dk_aload_n (pc' := 91) hE dX11_readWorks_90 rfl rfl rfl ?_
              refine gf_11_28 (pc' := 94) hE fl_X11_269 dX11_readWorks_91 is_141 rfl (fun v157 hv157 htv157 hbv157 => ?_)
              have hq157 : r = v157 := (show v157 = r by rw [hv157, hfσ154 141 28 (by omega), hfσ135 141 28 (by omega), hfσ129 141 28 (by omega), hfσ119 141 28 (by omega), hr]).symm
              subst hq157
              clear htv157 hbv157
              refine dk_dup2 (pc' := 95) hE dX11_readWorks_94 (show (0 : Nat) ≠ 3 by decide) (show (4 : Nat) ≠ 3 by decide) rfl ?_
              refine ga_72 (pc' := 96) hE dX11_readWorks_95 is_144 (by omega) rfl (fun v158 hv158 htv158 hbv158 => ?_)
              refine dk_iconst (pc' := 97) hE dX11_readWorks_96 (by decide) rfl ?_
              refine dk_iaddW (pc' := 98) hE dX11_readWorks_97 rfl (fun v159 hv159 _ => ?_)
              refine pa_72 (pc' := 99) hE dX11_readWorks_98 is_144 (by omega) trivial rfl (fun σ160 eσ160 => ?_)
              have hz161 : σ160 147 r = n := by rw [eσ160, dk_up_n (show ¬ (147 = 144 ∧ r = r) by omega), hfσ154 147 r (by omega), hfσ135 147 r (by omega), hfσ129 147 r (by omega), hfσ119 147 r (by omega), hn]
              have hz162 : σ160 145 r = w := by rw [eσ160, dk_up_n (show ¬ (145 = 144 ∧ r = r) by omega), hfσ154 145 r (by omega), hfσ135 145 r (by omega), hfσ129 145 r (by omega), hfσ119 145 r (by omega), hw]
              have hz163 : σ160 146 r = q := by rw [eσ160, dk_up_n (show ¬ (146 = 144 ∧ r = r) by omega), hfσ154 146 r (by omega), hfσ135 146 r (by omega), hfσ129 146 r (by omega), hfσ119 146 r (by omega), hq]
              have gi164 : RX r σ129 σ160 := RX_fr gi156 (fun k_ j_ h_ => by rw [eσ160, dk_up_n (show ¬ (k_ = 144 ∧ j_ = r) by omega)])
              exact dk_vret (st := []) hE hR dX11_readWorks_99 ⟨rfl, (fun k_ j_ h_ => by rw [eσ160, dk_up_n (show ¬ (k_ = 144 ∧ j_ = r) from fun q_ => h_ (Or.inr (Or.inr (Or.inr (Or.inr (Or.inr (Or.inr (Or.inr (dk_wr (lo := 144) (hi := 159) q_.1 (by decide)))))))))), hfσ154 k_ j_ (fun w_ => h_ (w_.elim (fun x0_ => Or.inl (x0_)) (fun y0_ => y0_.elim (fun x1_ => Or.inr (Or.inl (x1_))) (fun y1_ => y1_.elim (fun x2_ => Or.inr (Or.inr (Or.inl (x2_)))) (fun y2_ => y2_.elim (fun x3_ => Or.inr (Or.inr (Or.inr (Or.inl (x3_))))) (fun y3_ => y3_.elim (fun x4_ => Or.inr (Or.inr (Or.inr (Or.inr (Or.inl (x4_)))))) (fun y4_ => y4_.elim (fun x5_ => Or.inr (Or.inr (Or.inr (Or.inr (Or.inr (Or.inl (x5_))))))) (fun y5_ => Or.inr (Or.inr (Or.inr (Or.inr (Or.inr (Or.inr (Or.inl (y5_))))))))))))))), hfσ135 k_ j_ (fun w_ => h_ (w_.elim (fun x0_ => Or.inl (x0_)) (fun y0_ => y0_.elim (fun x1_ => Or.inr (Or.inl (x1_))) (fun y1_ => y1_.elim (fun x2_ => Or.inr (Or.inr (Or.inl (x2_)))) (fun y2_ => y2_.elim (fun x3_ => Or.inr (Or.inr (Or.inr (Or.inl (x3_))))) (fun y3_ => y3_.elim (fun x4_ => Or.inr (Or.inr (Or.inr (Or.inr (Or.inl (x4_)))))) (fun y4_ => y4_.elim (fun x5_ => Or.inr (Or.inr (Or.inr (Or.inr (Or.inr (Or.inl (x5_))))))) (fun y5_ => y5_.elim (fun x6_ => Or.inr (Or.inr (Or.inr (Or.inr (Or.inr (Or.inr (Or.inl (x6_)))))))) (fun y6_ => y6_.elim (fun x7_ => Or.inr (Or.inr (Or.inr (Or.inr (Or.inr (Or.inr (Or.inr (dk_wrr (lo := 144) (hi := 159) x7_ (by decide) (by decide))))))))) (fun y7_ => Or.inr (Or.inr (Or.inr (Or.inr (Or.inr (Or.inr (Or.inr (dk_wr (lo := 144) (hi := 159) y7_ (by decide)))))))))))))))))), hfσ129 k_ j_ (fun w_ => h_ (w_.elim (fun x0_ => Or.inr (Or.inr (Or.inl (x0_)))) (fun y0_ => y0_.elim (fun x1_ => Or.inr (Or.inr (Or.inr (Or.inl (x1_))))) (fun y1_ => y1_.elim (fun x2_ => Or.inr (Or.inr (Or.inr (Or.inr (Or.inl (x2_)))))) (fun y2_ => y2_.elim (fun x3_ => Or.inr (Or.inr (Or.inr (Or.inr (Or.inr (Or.inl (x3_))))))) (fun y3_ => Or.inr (Or.inr (Or.inr (Or.inr (Or.inr (Or.inr (Or.inl (y3_))))))))))))), hfσ119 k_ j_ (fun w_ => h_ (w_.elim (fun x0_ => Or.inl (x0_)) (fun y0_ => Or.inr (Or.inl (y0_)))))]), ⟨RX_rx hB gi164, fun a_ q_ => Or.inr (by have x_ := (gi164).1.2.2.1; have t_ := hT.2.2 q_; have y_ := H46.2.2.1; omega), by omega⟩⟩
          · skip
            refine dk_if_ne (tgt := 45) (pc' := 44) hE dX11_readWorks_41 (by decide) rfl (fun hc165 => absurd hc165 (by decide)) (fun hc165 => ?_)
            have hz166 : σ119 147 r = n := by rw [hfσ119 147 r (by omega), hn]
            have hz167 : σ119 145 r = w := by rw [hfσ119 145 r (by omega), hw]
            have hz168 : σ119 146 r = q := by rw [hfσ119 146 r (by omega), hq]
            exact dk_vret (st := []) hE hR dX11_readWorks_44 ⟨rfl, (fun k_ j_ h_ => by rw [hfσ119 k_ j_ (fun w_ => h_ (w_.elim (fun x0_ => Or.inl (x0_)) (fun y0_ => Or.inr (Or.inl (y0_)))))]), ⟨gi121, fun a_ q_ => Or.inl (by omega), by omega⟩⟩
        · skip
          refine dk_if_eq (tgt := 37) (pc' := 33) hE dX11_readWorks_30 (by decide) rfl (fun hc169 => ?_) (fun hc169 => absurd hc169 (by decide))
          refine dk_aload_n (pc' := 38) hE dX11_readWorks_37 rfl rfl rfl ?_
          refine dk_cV (pc' := 41) (as := []) hE lk_X11_250 (ct_X11_isGood l G hGd) dX11_readWorks_38 rfl is_141 rfl (by decide) (Nat.le_of_ble_eq_true rfl) rfl rfl (fun r171 σ170 hr171 hor171 => ?_)
          obtain ⟨v172, rfl, hfσ170, hpr171⟩ := hr171
          have hsσ170 : σ = σ170 := (funext (fun k => funext (fun j => hfσ170 k j not_false))).symm
          subst hsσ170
          rcases hpr171 with ⟨rfl, hpr171⟩ | ⟨rfl, hpr171⟩
          · skip
            refine dk_if_ne (tgt := 45) (pc' := 44) hE dX11_readWorks_41 (by decide) rfl (fun hc173 => ?_) (fun hc173 => absurd hc173 (by decide))
            refine dk_aload_n (pc' := 46) hE dX11_readWorks_45 rfl rfl rfl ?_
            refine dk_cV (pc' := 49) (as := []) hE lk_X11_254 (ct_X11_next l G hGd) dX11_readWorks_46 rfl is_141 rfl (by decide) (Nat.le_of_ble_eq_true rfl) ⟨rfl, ((NX_tk ((RX_of hT hTI)).1).2.1), (by omega)⟩ rfl (fun r175 σ174 hr175 hor175 => ?_)
            obtain ⟨rfl, hfσ174, hpr175⟩ := hr175
            have H46 := hpr175
            have gi176 : RX r σ σ174 := RX_y (RX_of hT hTI) hpr175 (fun k_ j_ h_ => hfσ174 k_ j_ (by omega))
            have hB : RX r σ σ174 := gi176
            have gi177 : RX r σ174 σ174 := RX_of (NX_tk hB.1) hB.2
            refine dk_iload_n (pc' := 50) hE dX11_readWorks_49 rfl rfl rfl ?_
            refine dk_if_eq (tgt := 60) (pc' := 53) hE dX11_readWorks_50 (by decide) rfl (fun hc178 => absurd hc178 (by decide)) (fun hc178 => ?_)
            refine dk_aload_n (pc' := 54) hE dX11_readWorks_53 rfl rfl rfl ?_
            have hz179 : σ174 141 3 = σ 141 3 := by rw [hfσ174 141 3 (by omega)]
            refine dk_cV (pc' := 57) (as := []) hE lk_X11_288 (ct_X11_readFloor l G hGd) dX11_readWorks_54 rfl is_141 rfl (by decide) (Nat.le_of_ble_eq_true rfl) ⟨rfl, (NX_tk (gi177).1), (by omega)⟩ rfl (fun r181 σ180 hr181 hor181 => ?_)
            obtain ⟨rfl, hfσ180, hpr181⟩ := hr181
            have gi182 : RX r σ174 σ180 := RX_tr gi177 hpr181 (fun k_ j_ h_ => hfσ180 k_ j_ (by omega))
            refine dk_goto (tgt := 76) hE dX11_readWorks_57 (by decide) ?_
            refine dk_aload_n (pc' := 77) hE dX11_readWorks_76 rfl rfl rfl ?_
            refine dk_aload_n (pc' := 78) hE dX11_readWorks_77 rfl rfl rfl ?_
            refine dk_bipush (pc' := 80) hE dX11_readWorks_78 (by decide) rfl ?_
            refine dk_cV (pc' := 83) (as := [(0, 59)]) hE lk_X11_298 (ct_X11_is l G hGd 59) dX11_readWorks_80 rfl is_141 rfl (by decide) (Nat.le_of_ble_eq_true rfl) rfl rfl (fun r184 σ183 hr184 hor184 => ?_)
            obtain ⟨v185, rfl, hfσ183, hpr184⟩ := hr184
            have hsσ183 : σ180 = σ183 := (funext (fun k => funext (fun j => hfσ183 k j not_false))).symm
            subst hsσ183
            rcases hpr184 with ⟨rfl, hpr184⟩ | rfl
            · skip
              have hz186 : σ180 141 3 = σ 141 3 := by rw [hfσ180 141 3 (by omega), hfσ174 141 3 (by omega)]
              refine dk_cV (pc' := 86) (as := [(0, 1)]) hE lk_X11_301 (ct_X11_must l G hGd 1) dX11_readWorks_83 rfl is_141 rfl (by decide) (Nat.le_of_ble_eq_true rfl) ⟨rfl, (NX_tk (gi182).1), (by omega)⟩ rfl (fun r188 σ187 hr188 hor188 => ?_)
              obtain ⟨rfl, hfσ187, hpr188⟩ := hr188
              have gi189 : RX r σ174 σ187 := RX_tr gi182 hpr188 (fun k_ j_ h_ => hfσ187 k_ j_ (by omega))
              refine dk_aload_n (pc' := 87) hE dX11_readWorks_86 rfl rfl rfl ?_
              refine gf_11_11 (pc' := 90) (w := 144) hE fl_X11_20 dX11_readWorks_87 is_141 rfl rfl ?_
              refine dk_aload_n (pc' := 91) hE dX11_readWorks_90 rfl rfl rfl ?_
              refine gf_11_28 (pc' := 94) hE fl_X11_269 dX11_readWorks_91 is_141 rfl (fun v190 hv190 htv190 hbv190 => ?_)
              have hq190 : r = v190 := (show v190 = r by rw [hv190, hfσ187 141 28 (by omega), hfσ180 141 28 (by omega), hfσ174 141 28 (by omega), hr]).symm
              subst hq190
              clear htv190 hbv190
              refine dk_dup2 (pc' := 95) hE dX11_readWorks_94 (show (0 : Nat) ≠ 3 by decide) (show (4 : Nat) ≠ 3 by decide) rfl ?_
              refine ga_72 (pc' := 96) hE dX11_readWorks_95 is_144 (by omega) rfl (fun v191 hv191 htv191 hbv191 => ?_)
              refine dk_iconst (pc' := 97) hE dX11_readWorks_96 (by decide) rfl ?_
              refine dk_iaddW (pc' := 98) hE dX11_readWorks_97 rfl (fun v192 hv192 _ => ?_)
              refine pa_72 (pc' := 99) hE dX11_readWorks_98 is_144 (by omega) trivial rfl (fun σ193 eσ193 => ?_)
              have hz194 : σ193 147 r = n := by rw [eσ193, dk_up_n (show ¬ (147 = 144 ∧ r = r) by omega), hfσ187 147 r (by omega), hfσ180 147 r (by omega), hfσ174 147 r (by omega), hn]
              have hz195 : σ193 145 r = w := by rw [eσ193, dk_up_n (show ¬ (145 = 144 ∧ r = r) by omega), hfσ187 145 r (by omega), hfσ180 145 r (by omega), hfσ174 145 r (by omega), hw]
              have hz196 : σ193 146 r = q := by rw [eσ193, dk_up_n (show ¬ (146 = 144 ∧ r = r) by omega), hfσ187 146 r (by omega), hfσ180 146 r (by omega), hfσ174 146 r (by omega), hq]
              have gi197 : RX r σ174 σ193 := RX_fr gi189 (fun k_ j_ h_ => by rw [eσ193, dk_up_n (show ¬ (k_ = 144 ∧ j_ = r) by omega)])
              exact dk_vret (st := []) hE hR dX11_readWorks_99 ⟨rfl, (fun k_ j_ h_ => by rw [eσ193, dk_up_n (show ¬ (k_ = 144 ∧ j_ = r) from fun q_ => h_ (Or.inr (Or.inr (Or.inr (Or.inr (Or.inr (Or.inr (Or.inr (dk_wr (lo := 144) (hi := 159) q_.1 (by decide)))))))))), hfσ187 k_ j_ (fun w_ => h_ (w_.elim (fun x0_ => Or.inl (x0_)) (fun y0_ => y0_.elim (fun x1_ => Or.inr (Or.inl (x1_))) (fun y1_ => y1_.elim (fun x2_ => Or.inr (Or.inr (Or.inl (x2_)))) (fun y2_ => y2_.elim (fun x3_ => Or.inr (Or.inr (Or.inr (Or.inl (x3_))))) (fun y3_ => y3_.elim (fun x4_ => Or.inr (Or.inr (Or.inr (Or.inr (Or.inl (x4_)))))) (fun y4_ => y4_.elim (fun x5_ => Or.inr (Or.inr (Or.inr (Or.inr (Or.inr (Or.inl (x5_))))))) (fun y5_ => Or.inr (Or.inr (Or.inr (Or.inr (Or.inr (Or.inr (Or.inl (y5_))))))))))))))), hfσ180 k_ j_ (fun w_ => h_ (w_.elim (fun x0_ => Or.inl (x0_)) (fun y0_ => y0_.elim (fun x1_ => Or.inr (Or.inl (x1_))) (fun y1_ => y1_.elim (fun x2_ => Or.inr (Or.inr (Or.inl (x2_)))) (fun y2_ => y2_.elim (fun x3_ => Or.inr (Or.inr (Or.inr (Or.inl (x3_))))) (fun y3_ => y3_.elim (fun x4_ => Or.inr (Or.inr (Or.inr (Or.inr (Or.inl (x4_)))))) (fun y4_ => y4_.elim (fun x5_ => Or.inr (Or.inr (Or.inr (Or.inr (Or.inr (Or.inl (x5_))))))) (fun y5_ => y5_.elim (fun x6_ => Or.inr (Or.inr (Or.inr (Or.inr (Or.inr (Or.inr (Or.inl (x6_)))))))) (fun y6_ => y6_.elim (fun x7_ => Or.inr (Or.inr (Or.inr (Or.inr (Or.inr (Or.inr (Or.inr (dk_wrr (lo := 144) (hi := 159) x7_ (by decide) (by decide))))))))) (fun y7_ => Or.inr (Or.inr (Or.inr (Or.inr (Or.inr (Or.inr (Or.inr (dk_wr (lo := 144) (hi := 159) y7_ (by decide)))))))))))))))))), hfσ174 k_ j_ (fun w_ => h_ (w_.elim (fun x0_ => Or.inr (Or.inr (Or.inl (x0_)))) (fun y0_ => y0_.elim (fun x1_ => Or.inr (Or.inr (Or.inr (Or.inl (x1_))))) (fun y1_ => y1_.elim (fun x2_ => Or.inr (Or.inr (Or.inr (Or.inr (Or.inl (x2_)))))) (fun y2_ => y2_.elim (fun x3_ => Or.inr (Or.inr (Or.inr (Or.inr (Or.inr (Or.inl (x3_))))))) (fun y3_ => Or.inr (Or.inr (Or.inr (Or.inr (Or.inr (Or.inr (Or.inl (y3_)))))))))))))]), ⟨RX_rx hB gi197, fun a_ q_ => Or.inr (by have x_ := (gi197).1.2.2.1; have t_ := hT.2.2 q_; have y_ := H46.2.2.1; omega), by omega⟩⟩
            · skip
              have hz198 : σ180 141 3 = σ 141 3 := by rw [hfσ180 141 3 (by omega), hfσ174 141 3 (by omega)]
              refine dk_cV (pc' := 86) (as := [(0, 0)]) hE lk_X11_301 (ct_X11_must l G hGd 0) dX11_readWorks_83 rfl is_141 rfl (by decide) (Nat.le_of_ble_eq_true rfl) ⟨rfl, (NX_tk (gi182).1), (by omega)⟩ rfl (fun r200 σ199 hr200 hor200 => ?_)
              obtain ⟨rfl, hfσ199, hpr200⟩ := hr200
              have gi201 : RX r σ174 σ199 := RX_tr gi182 hpr200 (fun k_ j_ h_ => hfσ199 k_ j_ (by omega))
              refine dk_aload_n (pc' := 87) hE dX11_readWorks_86 rfl rfl rfl ?_
              refine gf_11_11 (pc' := 90) (w := 144) hE fl_X11_20 dX11_readWorks_87 is_141 rfl rfl ?_
              refine dk_aload_n (pc' := 91) hE dX11_readWorks_90 rfl rfl rfl ?_
              refine gf_11_28 (pc' := 94) hE fl_X11_269 dX11_readWorks_91 is_141 rfl (fun v202 hv202 htv202 hbv202 => ?_)
              have hq202 : r = v202 := (show v202 = r by rw [hv202, hfσ199 141 28 (by omega), hfσ180 141 28 (by omega), hfσ174 141 28 (by omega), hr]).symm
              subst hq202
              clear htv202 hbv202
              refine dk_dup2 (pc' := 95) hE dX11_readWorks_94 (show (0 : Nat) ≠ 3 by decide) (show (4 : Nat) ≠ 3 by decide) rfl ?_
              refine ga_72 (pc' := 96) hE dX11_readWorks_95 is_144 (by omega) rfl (fun v203 hv203 htv203 hbv203 => ?_)
              refine dk_iconst (pc' := 97) hE dX11_readWorks_96 (by decide) rfl ?_
              refine dk_iaddW (pc' := 98) hE dX11_readWorks_97 rfl (fun v204 hv204 _ => ?_)
              refine pa_72 (pc' := 99) hE dX11_readWorks_98 is_144 (by omega) trivial rfl (fun σ205 eσ205 => ?_)
              have hz206 : σ205 147 r = n := by rw [eσ205, dk_up_n (show ¬ (147 = 144 ∧ r = r) by omega), hfσ199 147 r (by omega), hfσ180 147 r (by omega), hfσ174 147 r (by omega), hn]
              have hz207 : σ205 145 r = w := by rw [eσ205, dk_up_n (show ¬ (145 = 144 ∧ r = r) by omega), hfσ199 145 r (by omega), hfσ180 145 r (by omega), hfσ174 145 r (by omega), hw]
              have hz208 : σ205 146 r = q := by rw [eσ205, dk_up_n (show ¬ (146 = 144 ∧ r = r) by omega), hfσ199 146 r (by omega), hfσ180 146 r (by omega), hfσ174 146 r (by omega), hq]
              have gi209 : RX r σ174 σ205 := RX_fr gi201 (fun k_ j_ h_ => by rw [eσ205, dk_up_n (show ¬ (k_ = 144 ∧ j_ = r) by omega)])
              exact dk_vret (st := []) hE hR dX11_readWorks_99 ⟨rfl, (fun k_ j_ h_ => by rw [eσ205, dk_up_n (show ¬ (k_ = 144 ∧ j_ = r) from fun q_ => h_ (Or.inr (Or.inr (Or.inr (Or.inr (Or.inr (Or.inr (Or.inr (dk_wr (lo := 144) (hi := 159) q_.1 (by decide)))))))))), hfσ199 k_ j_ (fun w_ => h_ (w_.elim (fun x0_ => Or.inl (x0_)) (fun y0_ => y0_.elim (fun x1_ => Or.inr (Or.inl (x1_))) (fun y1_ => y1_.elim (fun x2_ => Or.inr (Or.inr (Or.inl (x2_)))) (fun y2_ => y2_.elim (fun x3_ => Or.inr (Or.inr (Or.inr (Or.inl (x3_))))) (fun y3_ => y3_.elim (fun x4_ => Or.inr (Or.inr (Or.inr (Or.inr (Or.inl (x4_)))))) (fun y4_ => y4_.elim (fun x5_ => Or.inr (Or.inr (Or.inr (Or.inr (Or.inr (Or.inl (x5_))))))) (fun y5_ => Or.inr (Or.inr (Or.inr (Or.inr (Or.inr (Or.inr (Or.inl (y5_))))))))))))))), hfσ180 k_ j_ (fun w_ => h_ (w_.elim (fun x0_ => Or.inl (x0_)) (fun y0_ => y0_.elim (fun x1_ => Or.inr (Or.inl (x1_))) (fun y1_ => y1_.elim (fun x2_ => Or.inr (Or.inr (Or.inl (x2_)))) (fun y2_ => y2_.elim (fun x3_ => Or.inr (Or.inr (Or.inr (Or.inl (x3_))))) (fun y3_ => y3_.elim (fun x4_ => Or.inr (Or.inr (Or.inr (Or.inr (Or.inl (x4_)))))) (fun y4_ => y4_.elim (fun x5_ => Or.inr (Or.inr (Or.inr (Or.inr (Or.inr (Or.inl (x5_))))))) (fun y5_ => y5_.elim (fun x6_ => Or.inr (Or.inr (Or.inr (Or.inr (Or.inr (Or.inr (Or.inl (x6_)))))))) (fun y6_ => y6_.elim (fun x7_ => Or.inr (Or.inr (Or.inr (Or.inr (Or.inr (Or.inr (Or.inr (dk_wrr (lo := 144) (hi := 159) x7_ (by decide) (by decide))))))))) (fun y7_ => Or.inr (Or.inr (Or.inr (Or.inr (Or.inr (Or.inr (Or.inr (dk_wr (lo := 144) (hi := 159) y7_ (by decide)))))))))))))))))), hfσ174 k_ j_ (fun w_ => h_ (w_.elim (fun x0_ => Or.inr (Or.inr (Or.inl (x0_)))) (fun y0_ => y0_.elim (fun x1_ => Or.inr (Or.inr (Or.inr (Or.inl (x1_))))) (fun y1_ => y1_.elim (fun x2_ => Or.inr (Or.inr (Or.inr (Or.inr (Or.inl (x2_)))))) (fun y2_ => y2_.elim (fun x3_ => Or.inr (Or.inr (Or.inr (Or.inr (Or.inr (Or.inl (x3_))))))) (fun y3_ => Or.inr (Or.inr (Or.inr (Or.inr (Or.inr (Or.inr (Or.inl (y3_)))))))))))))]), ⟨RX_rx hB gi209, fun a_ q_ => Or.inr (by have x_ := (gi209).1.2.2.1; have t_ := hT.2.2 q_; have y_ := H46.2.2.1; omega), by omega⟩⟩
          · skip
            refine dk_if_ne (tgt := 45) (pc' := 44) hE dX11_readWorks_41 (by decide) rfl (fun hc210 => absurd hc210 (by decide)) (fun hc210 => ?_)
            have hz211 : σ 147 r = n := by rw [hn]
            have hz212 : σ 145 r = w := by rw [hw]
            have hz213 : σ 146 r = q := by rw [hq]
            exact dk_vret (st := []) hE hR dX11_readWorks_44 ⟨rfl, (fun k_ j_ h_ => rfl), ⟨(RX_of hT hTI), fun a_ q_ => Or.inl (by omega), by omega⟩⟩
    · skip
      refine dk_istore_n (pc' := 16) (ls' := [(4, 141), (0, 1), (0, 0), (9, 0)]) hE dX11_readWorks_15 rfl rfl (by decide) rfl ?_
      refine dk_aload_n (pc' := 17) hE dX11_readWorks_16 rfl rfl rfl ?_
      refine dk_ldc2 (pc' := 20) hE dX11_readWorks_17 cs_X11_178 (by decide) rfl ?_
      refine dk_cV (pc' := 23) (as := [(3, 1852798053)]) hE lk_X11_281 (ct_X11_isWord l G hGd 1852798053) dX11_readWorks_20 rfl is_141 rfl (by decide) (Nat.le_of_ble_eq_true rfl) rfl rfl (fun r215 σ214 hr215 hor215 => ?_)
      obtain ⟨v216, rfl, hfσ214, hpr215⟩ := hr215
      have hsσ214 : σ = σ214 := (funext (fun k => funext (fun j => hfσ214 k j not_false))).symm
      subst hsσ214
      rcases hpr215 with ⟨rfl, hpr215⟩ | rfl
      · skip
        refine dk_istore_n (pc' := 24) (ls' := [(4, 141), (0, 1), (0, 0), (0, 1)]) hE dX11_readWorks_23 rfl rfl (by decide) rfl ?_
        refine dk_aload_n (pc' := 25) hE dX11_readWorks_24 rfl rfl rfl ?_
        refine dk_iload_n (pc' := 26) hE dX11_readWorks_25 rfl rfl rfl ?_
        refine dk_iload_n (pc' := 27) hE dX11_readWorks_26 rfl rfl rfl ?_
        have hz217 : σ 141 28 = r := by rw [hr]
        have hz218 : σ 145 r = w := by rw [hw]
        have hz219 : σ 146 r = q := by rw [hq]
        refine dk_cV (pc' := 30) (as := [(0, 1), (0, 0)]) hE lk_X11_284 (ct_X11_isFull l G hGd 1 0 r w q) dX11_readWorks_27 rfl is_141 rfl (by decide) (Nat.le_of_ble_eq_true rfl) ⟨rfl, (by omega), (by omega), (by omega), (by omega), (by omega), (by omega)⟩ rfl (fun r221 σ220 hr221 hor221 => ?_)
        obtain ⟨v222, rfl, hfσ220, hpr221⟩ := hr221
        have H27 := hpr221
        have hsσ220 : σ = σ220 := (funext (fun k => funext (fun j => hfσ220 k j not_false))).symm
        subst hsσ220
        rcases hpr221 with ⟨rfl, hpr221⟩ | ⟨rfl, hpr221⟩
        · skip
          refine dk_if_eq (tgt := 37) (pc' := 33) hE dX11_readWorks_30 (by decide) rfl (fun hc223 => absurd hc223 (by decide)) (fun hc223 => ?_)
          refine dk_aload_n (pc' := 34) hE dX11_readWorks_33 rfl rfl rfl ?_
          refine dk_cV (pc' := 37) (as := []) hE lk_X11_257 (ct_X11_wrong l G hGd) dX11_readWorks_34 rfl is_141 rfl (by decide) (Nat.le_of_ble_eq_true rfl) rfl rfl (fun r225 σ224 hr225 hor225 => ?_)
          obtain ⟨rfl, hfσ224, hpr225⟩ := hr225
          have gi226 : RX r σ σ224 := RX_f (RX_of hT hTI) hfσ224 hpr225
          refine dk_aload_n (pc' := 38) hE dX11_readWorks_37 rfl rfl rfl ?_
          refine dk_cV (pc' := 41) (as := []) hE lk_X11_250 (ct_X11_isGood l G hGd) dX11_readWorks_38 rfl is_141 rfl (by decide) (Nat.le_of_ble_eq_true rfl) rfl rfl (fun r228 σ227 hr228 hor228 => ?_)
          obtain ⟨v229, rfl, hfσ227, hpr228⟩ := hr228
          have hsσ227 : σ224 = σ227 := (funext (fun k => funext (fun j => hfσ227 k j not_false))).symm
          subst hsσ227
          rcases hpr228 with ⟨rfl, hpr228⟩ | ⟨rfl, hpr228⟩
          · skip
            refine dk_if_ne (tgt := 45) (pc' := 44) hE dX11_readWorks_41 (by decide) rfl (fun hc230 => ?_) (fun hc230 => absurd hc230 (by decide))
            refine dk_aload_n (pc' := 46) hE dX11_readWorks_45 rfl rfl rfl ?_
            have hz231 : σ224 141 7 = σ 141 7 := by rw [hfσ224 141 7 (by omega)]
            have hz232 : σ224 141 3 = σ 141 3 := by rw [hfσ224 141 3 (by omega)]
            have hz233 : σ224 141 3 = σ 141 3 := by rw [hfσ224 141 3 (by omega)]
            refine dk_cV (pc' := 49) (as := []) hE lk_X11_254 (ct_X11_next l G hGd) dX11_readWorks_46 rfl is_141 rfl (by decide) (Nat.le_of_ble_eq_true rfl) ⟨rfl, ((NX_tk (gi226).1).2.1), (by omega)⟩ rfl (fun r235 σ234 hr235 hor235 => ?_)
            obtain ⟨rfl, hfσ234, hpr235⟩ := hr235
            have H46 := hpr235
            have gi236 : RX r σ σ234 := RX_y gi226 hpr235 (fun k_ j_ h_ => hfσ234 k_ j_ (by omega))
            have hB : RX r σ σ234 := gi236
            have gi237 : RX r σ234 σ234 := RX_of (NX_tk hB.1) hB.2
            refine dk_iload_n (pc' := 50) hE dX11_readWorks_49 rfl rfl rfl ?_
            refine dk_if_eq (tgt := 60) (pc' := 53) hE dX11_readWorks_50 (by decide) rfl (fun hc238 => absurd hc238 (by decide)) (fun hc238 => ?_)
            refine dk_aload_n (pc' := 54) hE dX11_readWorks_53 rfl rfl rfl ?_
            have hz239 : σ234 141 3 = σ 141 3 := by rw [hfσ234 141 3 (by omega), hfσ224 141 3 (by omega)]
            refine dk_cV (pc' := 57) (as := []) hE lk_X11_288 (ct_X11_readFloor l G hGd) dX11_readWorks_54 rfl is_141 rfl (by decide) (Nat.le_of_ble_eq_true rfl) ⟨rfl, (NX_tk (gi237).1), (by omega)⟩ rfl (fun r241 σ240 hr241 hor241 => ?_)
            obtain ⟨rfl, hfσ240, hpr241⟩ := hr241
            have gi242 : RX r σ234 σ240 := RX_tr gi237 hpr241 (fun k_ j_ h_ => hfσ240 k_ j_ (by omega))
            refine dk_goto (tgt := 76) hE dX11_readWorks_57 (by decide) ?_
            refine dk_aload_n (pc' := 77) hE dX11_readWorks_76 rfl rfl rfl ?_
            refine dk_aload_n (pc' := 78) hE dX11_readWorks_77 rfl rfl rfl ?_
            refine dk_bipush (pc' := 80) hE dX11_readWorks_78 (by decide) rfl ?_
            refine dk_cV (pc' := 83) (as := [(0, 59)]) hE lk_X11_298 (ct_X11_is l G hGd 59) dX11_readWorks_80 rfl is_141 rfl (by decide) (Nat.le_of_ble_eq_true rfl) rfl rfl (fun r244 σ243 hr244 hor244 => ?_)
            obtain ⟨v245, rfl, hfσ243, hpr244⟩ := hr244
            have hsσ243 : σ240 = σ243 := (funext (fun k => funext (fun j => hfσ243 k j not_false))).symm
            subst hsσ243
            rcases hpr244 with ⟨rfl, hpr244⟩ | rfl
            · skip
              have hz246 : σ240 141 3 = σ 141 3 := by rw [hfσ240 141 3 (by omega), hfσ234 141 3 (by omega), hfσ224 141 3 (by omega)]
              refine dk_cV (pc' := 86) (as := [(0, 1)]) hE lk_X11_301 (ct_X11_must l G hGd 1) dX11_readWorks_83 rfl is_141 rfl (by decide) (Nat.le_of_ble_eq_true rfl) ⟨rfl, (NX_tk (gi242).1), (by omega)⟩ rfl (fun r248 σ247 hr248 hor248 => ?_)
              obtain ⟨rfl, hfσ247, hpr248⟩ := hr248
              have gi249 : RX r σ234 σ247 := RX_tr gi242 hpr248 (fun k_ j_ h_ => hfσ247 k_ j_ (by omega))
              refine dk_aload_n (pc' := 87) hE dX11_readWorks_86 rfl rfl rfl ?_
              refine gf_11_11 (pc' := 90) (w := 144) hE fl_X11_20 dX11_readWorks_87 is_141 rfl rfl ?_
              refine dk_aload_n (pc' := 91) hE dX11_readWorks_90 rfl rfl rfl ?_
              refine gf_11_28 (pc' := 94) hE fl_X11_269 dX11_readWorks_91 is_141 rfl (fun v250 hv250 htv250 hbv250 => ?_)
              have hq250 : r = v250 := (show v250 = r by rw [hv250, hfσ247 141 28 (by omega), hfσ240 141 28 (by omega), hfσ234 141 28 (by omega), hfσ224 141 28 (by omega), hr]).symm
              subst hq250
              clear htv250 hbv250
              refine dk_dup2 (pc' := 95) hE dX11_readWorks_94 (show (0 : Nat) ≠ 3 by decide) (show (4 : Nat) ≠ 3 by decide) rfl ?_
              refine ga_72 (pc' := 96) hE dX11_readWorks_95 is_144 (by omega) rfl (fun v251 hv251 htv251 hbv251 => ?_)
              refine dk_iconst (pc' := 97) hE dX11_readWorks_96 (by decide) rfl ?_
              refine dk_iaddW (pc' := 98) hE dX11_readWorks_97 rfl (fun v252 hv252 _ => ?_)
              refine pa_72 (pc' := 99) hE dX11_readWorks_98 is_144 (by omega) trivial rfl (fun σ253 eσ253 => ?_)
              have hz254 : σ253 147 r = n := by rw [eσ253, dk_up_n (show ¬ (147 = 144 ∧ r = r) by omega), hfσ247 147 r (by omega), hfσ240 147 r (by omega), hfσ234 147 r (by omega), hfσ224 147 r (by omega), hn]
              have hz255 : σ253 145 r = w := by rw [eσ253, dk_up_n (show ¬ (145 = 144 ∧ r = r) by omega), hfσ247 145 r (by omega), hfσ240 145 r (by omega), hfσ234 145 r (by omega), hfσ224 145 r (by omega), hw]
              have hz256 : σ253 146 r = q := by rw [eσ253, dk_up_n (show ¬ (146 = 144 ∧ r = r) by omega), hfσ247 146 r (by omega), hfσ240 146 r (by omega), hfσ234 146 r (by omega), hfσ224 146 r (by omega), hq]
              have gi257 : RX r σ234 σ253 := RX_fr gi249 (fun k_ j_ h_ => by rw [eσ253, dk_up_n (show ¬ (k_ = 144 ∧ j_ = r) by omega)])
              exact dk_vret (st := []) hE hR dX11_readWorks_99 ⟨rfl, (fun k_ j_ h_ => by rw [eσ253, dk_up_n (show ¬ (k_ = 144 ∧ j_ = r) from fun q_ => h_ (Or.inr (Or.inr (Or.inr (Or.inr (Or.inr (Or.inr (Or.inr (dk_wr (lo := 144) (hi := 159) q_.1 (by decide)))))))))), hfσ247 k_ j_ (fun w_ => h_ (w_.elim (fun x0_ => Or.inl (x0_)) (fun y0_ => y0_.elim (fun x1_ => Or.inr (Or.inl (x1_))) (fun y1_ => y1_.elim (fun x2_ => Or.inr (Or.inr (Or.inl (x2_)))) (fun y2_ => y2_.elim (fun x3_ => Or.inr (Or.inr (Or.inr (Or.inl (x3_))))) (fun y3_ => y3_.elim (fun x4_ => Or.inr (Or.inr (Or.inr (Or.inr (Or.inl (x4_)))))) (fun y4_ => y4_.elim (fun x5_ => Or.inr (Or.inr (Or.inr (Or.inr (Or.inr (Or.inl (x5_))))))) (fun y5_ => Or.inr (Or.inr (Or.inr (Or.inr (Or.inr (Or.inr (Or.inl (y5_))))))))))))))), hfσ240 k_ j_ (fun w_ => h_ (w_.elim (fun x0_ => Or.inl (x0_)) (fun y0_ => y0_.elim (fun x1_ => Or.inr (Or.inl (x1_))) (fun y1_ => y1_.elim (fun x2_ => Or.inr (Or.inr (Or.inl (x2_)))) (fun y2_ => y2_.elim (fun x3_ => Or.inr (Or.inr (Or.inr (Or.inl (x3_))))) (fun y3_ => y3_.elim (fun x4_ => Or.inr (Or.inr (Or.inr (Or.inr (Or.inl (x4_)))))) (fun y4_ => y4_.elim (fun x5_ => Or.inr (Or.inr (Or.inr (Or.inr (Or.inr (Or.inl (x5_))))))) (fun y5_ => y5_.elim (fun x6_ => Or.inr (Or.inr (Or.inr (Or.inr (Or.inr (Or.inr (Or.inl (x6_)))))))) (fun y6_ => y6_.elim (fun x7_ => Or.inr (Or.inr (Or.inr (Or.inr (Or.inr (Or.inr (Or.inr (dk_wrr (lo := 144) (hi := 159) x7_ (by decide) (by decide))))))))) (fun y7_ => Or.inr (Or.inr (Or.inr (Or.inr (Or.inr (Or.inr (Or.inr (dk_wr (lo := 144) (hi := 159) y7_ (by decide)))))))))))))))))), hfσ234 k_ j_ (fun w_ => h_ (w_.elim (fun x0_ => Or.inr (Or.inr (Or.inl (x0_)))) (fun y0_ => y0_.elim (fun x1_ => Or.inr (Or.inr (Or.inr (Or.inl (x1_))))) (fun y1_ => y1_.elim (fun x2_ => Or.inr (Or.inr (Or.inr (Or.inr (Or.inl (x2_)))))) (fun y2_ => y2_.elim (fun x3_ => Or.inr (Or.inr (Or.inr (Or.inr (Or.inr (Or.inl (x3_))))))) (fun y3_ => Or.inr (Or.inr (Or.inr (Or.inr (Or.inr (Or.inr (Or.inl (y3_))))))))))))), hfσ224 k_ j_ (fun w_ => h_ (w_.elim (fun x0_ => Or.inl (x0_)) (fun y0_ => Or.inr (Or.inl (y0_)))))]), ⟨RX_rx hB gi257, fun a_ q_ => Or.inr (by have x_ := (gi257).1.2.2.1; have t_ := hT.2.2 q_; have y_ := H46.2.2.1; omega), by omega⟩⟩
            · skip
              have hz258 : σ240 141 3 = σ 141 3 := by rw [hfσ240 141 3 (by omega), hfσ234 141 3 (by omega), hfσ224 141 3 (by omega)]
              refine dk_cV (pc' := 86) (as := [(0, 0)]) hE lk_X11_301 (ct_X11_must l G hGd 0) dX11_readWorks_83 rfl is_141 rfl (by decide) (Nat.le_of_ble_eq_true rfl) ⟨rfl, (NX_tk (gi242).1), (by omega)⟩ rfl (fun r260 σ259 hr260 hor260 => ?_)
              obtain ⟨rfl, hfσ259, hpr260⟩ := hr260
              have gi261 : RX r σ234 σ259 := RX_tr gi242 hpr260 (fun k_ j_ h_ => hfσ259 k_ j_ (by omega))
              refine dk_aload_n (pc' := 87) hE dX11_readWorks_86 rfl rfl rfl ?_
              refine gf_11_11 (pc' := 90) (w := 144) hE fl_X11_20 dX11_readWorks_87 is_141 rfl rfl ?_
              refine dk_aload_n (pc' := 91) hE dX11_readWorks_90 rfl rfl rfl ?_
              refine gf_11_28 (pc' := 94) hE fl_X11_269 dX11_readWorks_91 is_141 rfl (fun v262 hv262 htv262 hbv262 => ?_)
              have hq262 : r = v262 := (show v262 = r by rw [hv262, hfσ259 141 28 (by omega), hfσ240 141 28 (by omega), hfσ234 141 28 (by omega), hfσ224 141 28 (by omega), hr]).symm
              subst hq262
              clear htv262 hbv262
              refine dk_dup2 (pc' := 95) hE dX11_readWorks_94 (show (0 : Nat) ≠ 3 by decide) (show (4 : Nat) ≠ 3 by decide) rfl ?_
              refine ga_72 (pc' := 96) hE dX11_readWorks_95 is_144 (by omega) rfl (fun v263 hv263 htv263 hbv263 => ?_)
              refine dk_iconst (pc' := 97) hE dX11_readWorks_96 (by decide) rfl ?_
              refine dk_iaddW (pc' := 98) hE dX11_readWorks_97 rfl (fun v264 hv264 _ => ?_)
              refine pa_72 (pc' := 99) hE dX11_readWorks_98 is_144 (by omega) trivial rfl (fun σ265 eσ265 => ?_)
              have hz266 : σ265 147 r = n := by rw [eσ265, dk_up_n (show ¬ (147 = 144 ∧ r = r) by omega), hfσ259 147 r (by omega), hfσ240 147 r (by omega), hfσ234 147 r (by omega), hfσ224 147 r (by omega), hn]
              have hz267 : σ265 145 r = w := by rw [eσ265, dk_up_n (show ¬ (145 = 144 ∧ r = r) by omega), hfσ259 145 r (by omega), hfσ240 145 r (by omega), hfσ234 145 r (by omega), hfσ224 145 r (by omega), hw]
              have hz268 : σ265 146 r = q := by rw [eσ265, dk_up_n (show ¬ (146 = 144 ∧ r = r) by omega), hfσ259 146 r (by omega), hfσ240 146 r (by omega), hfσ234 146 r (by omega), hfσ224 146 r (by omega), hq]
              have gi269 : RX r σ234 σ265 := RX_fr gi261 (fun k_ j_ h_ => by rw [eσ265, dk_up_n (show ¬ (k_ = 144 ∧ j_ = r) by omega)])
              exact dk_vret (st := []) hE hR dX11_readWorks_99 ⟨rfl, (fun k_ j_ h_ => by rw [eσ265, dk_up_n (show ¬ (k_ = 144 ∧ j_ = r) from fun q_ => h_ (Or.inr (Or.inr (Or.inr (Or.inr (Or.inr (Or.inr (Or.inr (dk_wr (lo := 144) (hi := 159) q_.1 (by decide)))))))))), hfσ259 k_ j_ (fun w_ => h_ (w_.elim (fun x0_ => Or.inl (x0_)) (fun y0_ => y0_.elim (fun x1_ => Or.inr (Or.inl (x1_))) (fun y1_ => y1_.elim (fun x2_ => Or.inr (Or.inr (Or.inl (x2_)))) (fun y2_ => y2_.elim (fun x3_ => Or.inr (Or.inr (Or.inr (Or.inl (x3_))))) (fun y3_ => y3_.elim (fun x4_ => Or.inr (Or.inr (Or.inr (Or.inr (Or.inl (x4_)))))) (fun y4_ => y4_.elim (fun x5_ => Or.inr (Or.inr (Or.inr (Or.inr (Or.inr (Or.inl (x5_))))))) (fun y5_ => Or.inr (Or.inr (Or.inr (Or.inr (Or.inr (Or.inr (Or.inl (y5_))))))))))))))), hfσ240 k_ j_ (fun w_ => h_ (w_.elim (fun x0_ => Or.inl (x0_)) (fun y0_ => y0_.elim (fun x1_ => Or.inr (Or.inl (x1_))) (fun y1_ => y1_.elim (fun x2_ => Or.inr (Or.inr (Or.inl (x2_)))) (fun y2_ => y2_.elim (fun x3_ => Or.inr (Or.inr (Or.inr (Or.inl (x3_))))) (fun y3_ => y3_.elim (fun x4_ => Or.inr (Or.inr (Or.inr (Or.inr (Or.inl (x4_)))))) (fun y4_ => y4_.elim (fun x5_ => Or.inr (Or.inr (Or.inr (Or.inr (Or.inr (Or.inl (x5_))))))) (fun y5_ => y5_.elim (fun x6_ => Or.inr (Or.inr (Or.inr (Or.inr (Or.inr (Or.inr (Or.inl (x6_)))))))) (fun y6_ => y6_.elim (fun x7_ => Or.inr (Or.inr (Or.inr (Or.inr (Or.inr (Or.inr (Or.inr (dk_wrr (lo := 144) (hi := 159) x7_ (by decide) (by decide))))))))) (fun y7_ => Or.inr (Or.inr (Or.inr (Or.inr (Or.inr (Or.inr (Or.inr (dk_wr (lo := 144) (hi := 159) y7_ (by decide)))))))))))))))))), hfσ234 k_ j_ (fun w_ => h_ (w_.elim (fun x0_ => Or.inr (Or.inr (Or.inl (x0_)))) (fun y0_ => y0_.elim (fun x1_ => Or.inr (Or.inr (Or.inr (Or.inl (x1_))))) (fun y1_ => y1_.elim (fun x2_ => Or.inr (Or.inr (Or.inr (Or.inr (Or.inl (x2_)))))) (fun y2_ => y2_.elim (fun x3_ => Or.inr (Or.inr (Or.inr (Or.inr (Or.inr (Or.inl (x3_))))))) (fun y3_ => Or.inr (Or.inr (Or.inr (Or.inr (Or.inr (Or.inr (Or.inl (y3_))))))))))))), hfσ224 k_ j_ (fun w_ => h_ (w_.elim (fun x0_ => Or.inl (x0_)) (fun y0_ => Or.inr (Or.inl (y0_)))))]), ⟨RX_rx hB gi269, fun a_ q_ => Or.inr (by have x_ := (gi269).1.2.2.1; have t_ := hT.2.2 q_; have y_ := H46.2.2.1; omega), by omega⟩⟩
          · skip
            refine dk_if_ne (tgt := 45) (pc' := 44) hE dX11_readWorks_41 (by decide) rfl (fun hc270 => absurd hc270 (by decide)) (fun hc270 => ?_)
            have hz271 : σ224 147 r = n := by rw [hfσ224 147 r (by omega), hn]
            have hz272 : σ224 145 r = w := by rw [hfσ224 145 r (by omega), hw]
            have hz273 : σ224 146 r = q := by rw [hfσ224 146 r (by omega), hq]
            exact dk_vret (st := []) hE hR dX11_readWorks_44 ⟨rfl, (fun k_ j_ h_ => by rw [hfσ224 k_ j_ (fun w_ => h_ (w_.elim (fun x0_ => Or.inl (x0_)) (fun y0_ => Or.inr (Or.inl (y0_)))))]), ⟨gi226, fun a_ q_ => Or.inl (by omega), by omega⟩⟩
        · skip
          refine dk_if_eq (tgt := 37) (pc' := 33) hE dX11_readWorks_30 (by decide) rfl (fun hc274 => ?_) (fun hc274 => absurd hc274 (by decide))
          refine dk_aload_n (pc' := 38) hE dX11_readWorks_37 rfl rfl rfl ?_
          refine dk_cV (pc' := 41) (as := []) hE lk_X11_250 (ct_X11_isGood l G hGd) dX11_readWorks_38 rfl is_141 rfl (by decide) (Nat.le_of_ble_eq_true rfl) rfl rfl (fun r276 σ275 hr276 hor276 => ?_)
          obtain ⟨v277, rfl, hfσ275, hpr276⟩ := hr276
          have hsσ275 : σ = σ275 := (funext (fun k => funext (fun j => hfσ275 k j not_false))).symm
          subst hsσ275
          rcases hpr276 with ⟨rfl, hpr276⟩ | ⟨rfl, hpr276⟩
          · skip
            refine dk_if_ne (tgt := 45) (pc' := 44) hE dX11_readWorks_41 (by decide) rfl (fun hc278 => ?_) (fun hc278 => absurd hc278 (by decide))
            refine dk_aload_n (pc' := 46) hE dX11_readWorks_45 rfl rfl rfl ?_
            refine dk_cV (pc' := 49) (as := []) hE lk_X11_254 (ct_X11_next l G hGd) dX11_readWorks_46 rfl is_141 rfl (by decide) (Nat.le_of_ble_eq_true rfl) ⟨rfl, ((NX_tk ((RX_of hT hTI)).1).2.1), (by omega)⟩ rfl (fun r280 σ279 hr280 hor280 => ?_)
            obtain ⟨rfl, hfσ279, hpr280⟩ := hr280
            have H46 := hpr280
            have gi281 : RX r σ σ279 := RX_y (RX_of hT hTI) hpr280 (fun k_ j_ h_ => hfσ279 k_ j_ (by omega))
            have hB : RX r σ σ279 := gi281
            have gi282 : RX r σ279 σ279 := RX_of (NX_tk hB.1) hB.2
            refine dk_iload_n (pc' := 50) hE dX11_readWorks_49 rfl rfl rfl ?_
            refine dk_if_eq (tgt := 60) (pc' := 53) hE dX11_readWorks_50 (by decide) rfl (fun hc283 => absurd hc283 (by decide)) (fun hc283 => ?_)
            refine dk_aload_n (pc' := 54) hE dX11_readWorks_53 rfl rfl rfl ?_
            have hz284 : σ279 141 3 = σ 141 3 := by rw [hfσ279 141 3 (by omega)]
            refine dk_cV (pc' := 57) (as := []) hE lk_X11_288 (ct_X11_readFloor l G hGd) dX11_readWorks_54 rfl is_141 rfl (by decide) (Nat.le_of_ble_eq_true rfl) ⟨rfl, (NX_tk (gi282).1), (by omega)⟩ rfl (fun r286 σ285 hr286 hor286 => ?_)
            obtain ⟨rfl, hfσ285, hpr286⟩ := hr286
            have gi287 : RX r σ279 σ285 := RX_tr gi282 hpr286 (fun k_ j_ h_ => hfσ285 k_ j_ (by omega))
            refine dk_goto (tgt := 76) hE dX11_readWorks_57 (by decide) ?_
            refine dk_aload_n (pc' := 77) hE dX11_readWorks_76 rfl rfl rfl ?_
            refine dk_aload_n (pc' := 78) hE dX11_readWorks_77 rfl rfl rfl ?_
            refine dk_bipush (pc' := 80) hE dX11_readWorks_78 (by decide) rfl ?_
            refine dk_cV (pc' := 83) (as := [(0, 59)]) hE lk_X11_298 (ct_X11_is l G hGd 59) dX11_readWorks_80 rfl is_141 rfl (by decide) (Nat.le_of_ble_eq_true rfl) rfl rfl (fun r289 σ288 hr289 hor289 => ?_)
            obtain ⟨v290, rfl, hfσ288, hpr289⟩ := hr289
            have hsσ288 : σ285 = σ288 := (funext (fun k => funext (fun j => hfσ288 k j not_false))).symm
            subst hsσ288
            rcases hpr289 with ⟨rfl, hpr289⟩ | rfl
            · skip
              have hz291 : σ285 141 3 = σ 141 3 := by rw [hfσ285 141 3 (by omega), hfσ279 141 3 (by omega)]
              refine dk_cV (pc' := 86) (as := [(0, 1)]) hE lk_X11_301 (ct_X11_must l G hGd 1) dX11_readWorks_83 rfl is_141 rfl (by decide) (Nat.le_of_ble_eq_true rfl) ⟨rfl, (NX_tk (gi287).1), (by omega)⟩ rfl (fun r293 σ292 hr293 hor293 => ?_)
              obtain ⟨rfl, hfσ292, hpr293⟩ := hr293
              have gi294 : RX r σ279 σ292 := RX_tr gi287 hpr293 (fun k_ j_ h_ => hfσ292 k_ j_ (by omega))
              refine dk_aload_n (pc' := 87) hE dX11_readWorks_86 rfl rfl rfl ?_
              refine gf_11_11 (pc' := 90) (w := 144) hE fl_X11_20 dX11_readWorks_87 is_141 rfl rfl ?_
              refine dk_aload_n (pc' := 91) hE dX11_readWorks_90 rfl rfl rfl ?_
              refine gf_11_28 (pc' := 94) hE fl_X11_269 dX11_readWorks_91 is_141 rfl (fun v295 hv295 htv295 hbv295 => ?_)
              have hq295 : r = v295 := (show v295 = r by rw [hv295, hfσ292 141 28 (by omega), hfσ285 141 28 (by omega), hfσ279 141 28 (by omega), hr]).symm
              subst hq295
              clear htv295 hbv295
              refine dk_dup2 (pc' := 95) hE dX11_readWorks_94 (show (0 : Nat) ≠ 3 by decide) (show (4 : Nat) ≠ 3 by decide) rfl ?_
              refine ga_72 (pc' := 96) hE dX11_readWorks_95 is_144 (by omega) rfl (fun v296 hv296 htv296 hbv296 => ?_)
              refine dk_iconst (pc' := 97) hE dX11_readWorks_96 (by decide) rfl ?_
              refine dk_iaddW (pc' := 98) hE dX11_readWorks_97 rfl (fun v297 hv297 _ => ?_)
              refine pa_72 (pc' := 99) hE dX11_readWorks_98 is_144 (by omega) trivial rfl (fun σ298 eσ298 => ?_)
              have hz299 : σ298 147 r = n := by rw [eσ298, dk_up_n (show ¬ (147 = 144 ∧ r = r) by omega), hfσ292 147 r (by omega), hfσ285 147 r (by omega), hfσ279 147 r (by omega), hn]
              have hz300 : σ298 145 r = w := by rw [eσ298, dk_up_n (show ¬ (145 = 144 ∧ r = r) by omega), hfσ292 145 r (by omega), hfσ285 145 r (by omega), hfσ279 145 r (by omega), hw]
              have hz301 : σ298 146 r = q := by rw [eσ298, dk_up_n (show ¬ (146 = 144 ∧ r = r) by omega), hfσ292 146 r (by omega), hfσ285 146 r (by omega), hfσ279 146 r (by omega), hq]
              have gi302 : RX r σ279 σ298 := RX_fr gi294 (fun k_ j_ h_ => by rw [eσ298, dk_up_n (show ¬ (k_ = 144 ∧ j_ = r) by omega)])
              exact dk_vret (st := []) hE hR dX11_readWorks_99 ⟨rfl, (fun k_ j_ h_ => by rw [eσ298, dk_up_n (show ¬ (k_ = 144 ∧ j_ = r) from fun q_ => h_ (Or.inr (Or.inr (Or.inr (Or.inr (Or.inr (Or.inr (Or.inr (dk_wr (lo := 144) (hi := 159) q_.1 (by decide)))))))))), hfσ292 k_ j_ (fun w_ => h_ (w_.elim (fun x0_ => Or.inl (x0_)) (fun y0_ => y0_.elim (fun x1_ => Or.inr (Or.inl (x1_))) (fun y1_ => y1_.elim (fun x2_ => Or.inr (Or.inr (Or.inl (x2_)))) (fun y2_ => y2_.elim (fun x3_ => Or.inr (Or.inr (Or.inr (Or.inl (x3_))))) (fun y3_ => y3_.elim (fun x4_ => Or.inr (Or.inr (Or.inr (Or.inr (Or.inl (x4_)))))) (fun y4_ => y4_.elim (fun x5_ => Or.inr (Or.inr (Or.inr (Or.inr (Or.inr (Or.inl (x5_))))))) (fun y5_ => Or.inr (Or.inr (Or.inr (Or.inr (Or.inr (Or.inr (Or.inl (y5_))))))))))))))), hfσ285 k_ j_ (fun w_ => h_ (w_.elim (fun x0_ => Or.inl (x0_)) (fun y0_ => y0_.elim (fun x1_ => Or.inr (Or.inl (x1_))) (fun y1_ => y1_.elim (fun x2_ => Or.inr (Or.inr (Or.inl (x2_)))) (fun y2_ => y2_.elim (fun x3_ => Or.inr (Or.inr (Or.inr (Or.inl (x3_))))) (fun y3_ => y3_.elim (fun x4_ => Or.inr (Or.inr (Or.inr (Or.inr (Or.inl (x4_)))))) (fun y4_ => y4_.elim (fun x5_ => Or.inr (Or.inr (Or.inr (Or.inr (Or.inr (Or.inl (x5_))))))) (fun y5_ => y5_.elim (fun x6_ => Or.inr (Or.inr (Or.inr (Or.inr (Or.inr (Or.inr (Or.inl (x6_)))))))) (fun y6_ => y6_.elim (fun x7_ => Or.inr (Or.inr (Or.inr (Or.inr (Or.inr (Or.inr (Or.inr (dk_wrr (lo := 144) (hi := 159) x7_ (by decide) (by decide))))))))) (fun y7_ => Or.inr (Or.inr (Or.inr (Or.inr (Or.inr (Or.inr (Or.inr (dk_wr (lo := 144) (hi := 159) y7_ (by decide)))))))))))))))))), hfσ279 k_ j_ (fun w_ => h_ (w_.elim (fun x0_ => Or.inr (Or.inr (Or.inl (x0_)))) (fun y0_ => y0_.elim (fun x1_ => Or.inr (Or.inr (Or.inr (Or.inl (x1_))))) (fun y1_ => y1_.elim (fun x2_ => Or.inr (Or.inr (Or.inr (Or.inr (Or.inl (x2_)))))) (fun y2_ => y2_.elim (fun x3_ => Or.inr (Or.inr (Or.inr (Or.inr (Or.inr (Or.inl (x3_))))))) (fun y3_ => Or.inr (Or.inr (Or.inr (Or.inr (Or.inr (Or.inr (Or.inl (y3_)))))))))))))]), ⟨RX_rx hB gi302, fun a_ q_ => Or.inr (by have x_ := (gi302).1.2.2.1; have t_ := hT.2.2 q_; have y_ := H46.2.2.1; omega), by omega⟩⟩
            · skip
              have hz303 : σ285 141 3 = σ 141 3 := by rw [hfσ285 141 3 (by omega), hfσ279 141 3 (by omega)]
              refine dk_cV (pc' := 86) (as := [(0, 0)]) hE lk_X11_301 (ct_X11_must l G hGd 0) dX11_readWorks_83 rfl is_141 rfl (by decide) (Nat.le_of_ble_eq_true rfl) ⟨rfl, (NX_tk (gi287).1), (by omega)⟩ rfl (fun r305 σ304 hr305 hor305 => ?_)
              obtain ⟨rfl, hfσ304, hpr305⟩ := hr305
              have gi306 : RX r σ279 σ304 := RX_tr gi287 hpr305 (fun k_ j_ h_ => hfσ304 k_ j_ (by omega))
              refine dk_aload_n (pc' := 87) hE dX11_readWorks_86 rfl rfl rfl ?_
              refine gf_11_11 (pc' := 90) (w := 144) hE fl_X11_20 dX11_readWorks_87 is_141 rfl rfl ?_
              refine dk_aload_n (pc' := 91) hE dX11_readWorks_90 rfl rfl rfl ?_
              refine gf_11_28 (pc' := 94) hE fl_X11_269 dX11_readWorks_91 is_141 rfl (fun v307 hv307 htv307 hbv307 => ?_)
              have hq307 : r = v307 := (show v307 = r by rw [hv307, hfσ304 141 28 (by omega), hfσ285 141 28 (by omega), hfσ279 141 28 (by omega), hr]).symm
              subst hq307
              clear htv307 hbv307
              refine dk_dup2 (pc' := 95) hE dX11_readWorks_94 (show (0 : Nat) ≠ 3 by decide) (show (4 : Nat) ≠ 3 by decide) rfl ?_
              refine ga_72 (pc' := 96) hE dX11_readWorks_95 is_144 (by omega) rfl (fun v308 hv308 htv308 hbv308 => ?_)
              refine dk_iconst (pc' := 97) hE dX11_readWorks_96 (by decide) rfl ?_
              refine dk_iaddW (pc' := 98) hE dX11_readWorks_97 rfl (fun v309 hv309 _ => ?_)
              refine pa_72 (pc' := 99) hE dX11_readWorks_98 is_144 (by omega) trivial rfl (fun σ310 eσ310 => ?_)
              have hz311 : σ310 147 r = n := by rw [eσ310, dk_up_n (show ¬ (147 = 144 ∧ r = r) by omega), hfσ304 147 r (by omega), hfσ285 147 r (by omega), hfσ279 147 r (by omega), hn]
              have hz312 : σ310 145 r = w := by rw [eσ310, dk_up_n (show ¬ (145 = 144 ∧ r = r) by omega), hfσ304 145 r (by omega), hfσ285 145 r (by omega), hfσ279 145 r (by omega), hw]
              have hz313 : σ310 146 r = q := by rw [eσ310, dk_up_n (show ¬ (146 = 144 ∧ r = r) by omega), hfσ304 146 r (by omega), hfσ285 146 r (by omega), hfσ279 146 r (by omega), hq]
              have gi314 : RX r σ279 σ310 := RX_fr gi306 (fun k_ j_ h_ => by rw [eσ310, dk_up_n (show ¬ (k_ = 144 ∧ j_ = r) by omega)])
              exact dk_vret (st := []) hE hR dX11_readWorks_99 ⟨rfl, (fun k_ j_ h_ => by rw [eσ310, dk_up_n (show ¬ (k_ = 144 ∧ j_ = r) from fun q_ => h_ (Or.inr (Or.inr (Or.inr (Or.inr (Or.inr (Or.inr (Or.inr (dk_wr (lo := 144) (hi := 159) q_.1 (by decide)))))))))), hfσ304 k_ j_ (fun w_ => h_ (w_.elim (fun x0_ => Or.inl (x0_)) (fun y0_ => y0_.elim (fun x1_ => Or.inr (Or.inl (x1_))) (fun y1_ => y1_.elim (fun x2_ => Or.inr (Or.inr (Or.inl (x2_)))) (fun y2_ => y2_.elim (fun x3_ => Or.inr (Or.inr (Or.inr (Or.inl (x3_))))) (fun y3_ => y3_.elim (fun x4_ => Or.inr (Or.inr (Or.inr (Or.inr (Or.inl (x4_)))))) (fun y4_ => y4_.elim (fun x5_ => Or.inr (Or.inr (Or.inr (Or.inr (Or.inr (Or.inl (x5_))))))) (fun y5_ => Or.inr (Or.inr (Or.inr (Or.inr (Or.inr (Or.inr (Or.inl (y5_))))))))))))))), hfσ285 k_ j_ (fun w_ => h_ (w_.elim (fun x0_ => Or.inl (x0_)) (fun y0_ => y0_.elim (fun x1_ => Or.inr (Or.inl (x1_))) (fun y1_ => y1_.elim (fun x2_ => Or.inr (Or.inr (Or.inl (x2_)))) (fun y2_ => y2_.elim (fun x3_ => Or.inr (Or.inr (Or.inr (Or.inl (x3_))))) (fun y3_ => y3_.elim (fun x4_ => Or.inr (Or.inr (Or.inr (Or.inr (Or.inl (x4_)))))) (fun y4_ => y4_.elim (fun x5_ => Or.inr (Or.inr (Or.inr (Or.inr (Or.inr (Or.inl (x5_))))))) (fun y5_ => y5_.elim (fun x6_ => Or.inr (Or.inr (Or.inr (Or.inr (Or.inr (Or.inr (Or.inl (x6_)))))))) (fun y6_ => y6_.elim (fun x7_ => Or.inr (Or.inr (Or.inr (Or.inr (Or.inr (Or.inr (Or.inr (dk_wrr (lo := 144) (hi := 159) x7_ (by decide) (by decide))))))))) (fun y7_ => Or.inr (Or.inr (Or.inr (Or.inr (Or.inr (Or.inr (Or.inr (dk_wr (lo := 144) (hi := 159) y7_ (by decide)))))))))))))))))), hfσ279 k_ j_ (fun w_ => h_ (w_.elim (fun x0_ => Or.inr (Or.inr (Or.inl (x0_)))) (fun y0_ => y0_.elim (fun x1_ => Or.inr (Or.inr (Or.inr (Or.inl (x1_))))) (fun y1_ => y1_.elim (fun x2_ => Or.inr (Or.inr (Or.inr (Or.inr (Or.inl (x2_)))))) (fun y2_ => y2_.elim (fun x3_ => Or.inr (Or.inr (Or.inr (Or.inr (Or.inr (Or.inl (x3_))))))) (fun y3_ => Or.inr (Or.inr (Or.inr (Or.inr (Or.inr (Or.inr (Or.inl (y3_)))))))))))))]), ⟨RX_rx hB gi314, fun a_ q_ => Or.inr (by have x_ := (gi314).1.2.2.1; have t_ := hT.2.2 q_; have y_ := H46.2.2.1; omega), by omega⟩⟩
          · skip
            refine dk_if_ne (tgt := 45) (pc' := 44) hE dX11_readWorks_41 (by decide) rfl (fun hc315 => absurd hc315 (by decide)) (fun hc315 => ?_)
            have hz316 : σ 147 r = n := by rw [hn]
            have hz317 : σ 145 r = w := by rw [hw]
            have hz318 : σ 146 r = q := by rw [hq]
            exact dk_vret (st := []) hE hR dX11_readWorks_44 ⟨rfl, (fun k_ j_ h_ => rfl), ⟨(RX_of hT hTI), fun a_ q_ => Or.inl (by omega), by omega⟩⟩
      · skip
        refine dk_istore_n (pc' := 24) (ls' := [(4, 141), (0, 1), (0, 0), (0, 0)]) hE dX11_readWorks_23 rfl rfl (by decide) rfl ?_
        refine dk_aload_n (pc' := 25) hE dX11_readWorks_24 rfl rfl rfl ?_
        refine dk_iload_n (pc' := 26) hE dX11_readWorks_25 rfl rfl rfl ?_
        refine dk_iload_n (pc' := 27) hE dX11_readWorks_26 rfl rfl rfl ?_
        have hz319 : σ 141 28 = r := by rw [hr]
        have hz320 : σ 145 r = w := by rw [hw]
        have hz321 : σ 146 r = q := by rw [hq]
        refine dk_cV (pc' := 30) (as := [(0, 1), (0, 0)]) hE lk_X11_284 (ct_X11_isFull l G hGd 1 0 r w q) dX11_readWorks_27 rfl is_141 rfl (by decide) (Nat.le_of_ble_eq_true rfl) ⟨rfl, (by omega), (by omega), (by omega), (by omega), (by omega), (by omega)⟩ rfl (fun r323 σ322 hr323 hor323 => ?_)
        obtain ⟨v324, rfl, hfσ322, hpr323⟩ := hr323
        have H27 := hpr323
        have hsσ322 : σ = σ322 := (funext (fun k => funext (fun j => hfσ322 k j not_false))).symm
        subst hsσ322
        rcases hpr323 with ⟨rfl, hpr323⟩ | ⟨rfl, hpr323⟩
        · skip
          refine dk_if_eq (tgt := 37) (pc' := 33) hE dX11_readWorks_30 (by decide) rfl (fun hc325 => absurd hc325 (by decide)) (fun hc325 => ?_)
          refine dk_aload_n (pc' := 34) hE dX11_readWorks_33 rfl rfl rfl ?_
          refine dk_cV (pc' := 37) (as := []) hE lk_X11_257 (ct_X11_wrong l G hGd) dX11_readWorks_34 rfl is_141 rfl (by decide) (Nat.le_of_ble_eq_true rfl) rfl rfl (fun r327 σ326 hr327 hor327 => ?_)
          obtain ⟨rfl, hfσ326, hpr327⟩ := hr327
          have gi328 : RX r σ σ326 := RX_f (RX_of hT hTI) hfσ326 hpr327
          refine dk_aload_n (pc' := 38) hE dX11_readWorks_37 rfl rfl rfl ?_
          refine dk_cV (pc' := 41) (as := []) hE lk_X11_250 (ct_X11_isGood l G hGd) dX11_readWorks_38 rfl is_141 rfl (by decide) (Nat.le_of_ble_eq_true rfl) rfl rfl (fun r330 σ329 hr330 hor330 => ?_)
          obtain ⟨v331, rfl, hfσ329, hpr330⟩ := hr330
          have hsσ329 : σ326 = σ329 := (funext (fun k => funext (fun j => hfσ329 k j not_false))).symm
          subst hsσ329
          rcases hpr330 with ⟨rfl, hpr330⟩ | ⟨rfl, hpr330⟩
          · skip
            refine dk_if_ne (tgt := 45) (pc' := 44) hE dX11_readWorks_41 (by decide) rfl (fun hc332 => ?_) (fun hc332 => absurd hc332 (by decide))
            refine dk_aload_n (pc' := 46) hE dX11_readWorks_45 rfl rfl rfl ?_
            have hz333 : σ326 141 7 = σ 141 7 := by rw [hfσ326 141 7 (by omega)]
            have hz334 : σ326 141 3 = σ 141 3 := by rw [hfσ326 141 3 (by omega)]
            have hz335 : σ326 141 3 = σ 141 3 := by rw [hfσ326 141 3 (by omega)]
            refine dk_cV (pc' := 49) (as := []) hE lk_X11_254 (ct_X11_next l G hGd) dX11_readWorks_46 rfl is_141 rfl (by decide) (Nat.le_of_ble_eq_true rfl) ⟨rfl, ((NX_tk (gi328).1).2.1), (by omega)⟩ rfl (fun r337 σ336 hr337 hor337 => ?_)
            obtain ⟨rfl, hfσ336, hpr337⟩ := hr337
            have H46 := hpr337
            have gi338 : RX r σ σ336 := RX_y gi328 hpr337 (fun k_ j_ h_ => hfσ336 k_ j_ (by omega))
            have hB : RX r σ σ336 := gi338
            have gi339 : RX r σ336 σ336 := RX_of (NX_tk hB.1) hB.2
            refine dk_iload_n (pc' := 50) hE dX11_readWorks_49 rfl rfl rfl ?_
            refine dk_if_eq (tgt := 60) (pc' := 53) hE dX11_readWorks_50 (by decide) rfl (fun hc340 => absurd hc340 (by decide)) (fun hc340 => ?_)
            refine dk_aload_n (pc' := 54) hE dX11_readWorks_53 rfl rfl rfl ?_
            have hz341 : σ336 141 3 = σ 141 3 := by rw [hfσ336 141 3 (by omega), hfσ326 141 3 (by omega)]
            refine dk_cV (pc' := 57) (as := []) hE lk_X11_288 (ct_X11_readFloor l G hGd) dX11_readWorks_54 rfl is_141 rfl (by decide) (Nat.le_of_ble_eq_true rfl) ⟨rfl, (NX_tk (gi339).1), (by omega)⟩ rfl (fun r343 σ342 hr343 hor343 => ?_)
            obtain ⟨rfl, hfσ342, hpr343⟩ := hr343
            have gi344 : RX r σ336 σ342 := RX_tr gi339 hpr343 (fun k_ j_ h_ => hfσ342 k_ j_ (by omega))
            refine dk_goto (tgt := 76) hE dX11_readWorks_57 (by decide) ?_
            refine dk_aload_n (pc' := 77) hE dX11_readWorks_76 rfl rfl rfl ?_
            refine dk_aload_n (pc' := 78) hE dX11_readWorks_77 rfl rfl rfl ?_
            refine dk_bipush (pc' := 80) hE dX11_readWorks_78 (by decide) rfl ?_
            refine dk_cV (pc' := 83) (as := [(0, 59)]) hE lk_X11_298 (ct_X11_is l G hGd 59) dX11_readWorks_80 rfl is_141 rfl (by decide) (Nat.le_of_ble_eq_true rfl) rfl rfl (fun r346 σ345 hr346 hor346 => ?_)
            obtain ⟨v347, rfl, hfσ345, hpr346⟩ := hr346
            have hsσ345 : σ342 = σ345 := (funext (fun k => funext (fun j => hfσ345 k j not_false))).symm
            subst hsσ345
            rcases hpr346 with ⟨rfl, hpr346⟩ | rfl
            · skip
              have hz348 : σ342 141 3 = σ 141 3 := by rw [hfσ342 141 3 (by omega), hfσ336 141 3 (by omega), hfσ326 141 3 (by omega)]
              refine dk_cV (pc' := 86) (as := [(0, 1)]) hE lk_X11_301 (ct_X11_must l G hGd 1) dX11_readWorks_83 rfl is_141 rfl (by decide) (Nat.le_of_ble_eq_true rfl) ⟨rfl, (NX_tk (gi344).1), (by omega)⟩ rfl (fun r350 σ349 hr350 hor350 => ?_)
              obtain ⟨rfl, hfσ349, hpr350⟩ := hr350
              have gi351 : RX r σ336 σ349 := RX_tr gi344 hpr350 (fun k_ j_ h_ => hfσ349 k_ j_ (by omega))
              refine dk_aload_n (pc' := 87) hE dX11_readWorks_86 rfl rfl rfl ?_
              refine gf_11_11 (pc' := 90) (w := 144) hE fl_X11_20 dX11_readWorks_87 is_141 rfl rfl ?_
              refine dk_aload_n (pc' := 91) hE dX11_readWorks_90 rfl rfl rfl ?_
              refine gf_11_28 (pc' := 94) hE fl_X11_269 dX11_readWorks_91 is_141 rfl (fun v352 hv352 htv352 hbv352 => ?_)
              have hq352 : r = v352 := (show v352 = r by rw [hv352, hfσ349 141 28 (by omega), hfσ342 141 28 (by omega), hfσ336 141 28 (by omega), hfσ326 141 28 (by omega), hr]).symm
              subst hq352
              clear htv352 hbv352
              refine dk_dup2 (pc' := 95) hE dX11_readWorks_94 (show (0 : Nat) ≠ 3 by decide) (show (4 : Nat) ≠ 3 by decide) rfl ?_
              refine ga_72 (pc' := 96) hE dX11_readWorks_95 is_144 (by omega) rfl (fun v353 hv353 htv353 hbv353 => ?_)
              refine dk_iconst (pc' := 97) hE dX11_readWorks_96 (by decide) rfl ?_
              refine dk_iaddW (pc' := 98) hE dX11_readWorks_97 rfl (fun v354 hv354 _ => ?_)
              refine pa_72 (pc' := 99) hE dX11_readWorks_98 is_144 (by omega) trivial rfl (fun σ355 eσ355 => ?_)
              have hz356 : σ355 147 r = n := by rw [eσ355, dk_up_n (show ¬ (147 = 144 ∧ r = r) by omega), hfσ349 147 r (by omega), hfσ342 147 r (by omega), hfσ336 147 r (by omega), hfσ326 147 r (by omega), hn]
              have hz357 : σ355 145 r = w := by rw [eσ355, dk_up_n (show ¬ (145 = 144 ∧ r = r) by omega), hfσ349 145 r (by omega), hfσ342 145 r (by omega), hfσ336 145 r (by omega), hfσ326 145 r (by omega), hw]
              have hz358 : σ355 146 r = q := by rw [eσ355, dk_up_n (show ¬ (146 = 144 ∧ r = r) by omega), hfσ349 146 r (by omega), hfσ342 146 r (by omega), hfσ336 146 r (by omega), hfσ326 146 r (by omega), hq]
              have gi359 : RX r σ336 σ355 := RX_fr gi351 (fun k_ j_ h_ => by rw [eσ355, dk_up_n (show ¬ (k_ = 144 ∧ j_ = r) by omega)])
              exact dk_vret (st := []) hE hR dX11_readWorks_99 ⟨rfl, (fun k_ j_ h_ => by rw [eσ355, dk_up_n (show ¬ (k_ = 144 ∧ j_ = r) from fun q_ => h_ (Or.inr (Or.inr (Or.inr (Or.inr (Or.inr (Or.inr (Or.inr (dk_wr (lo := 144) (hi := 159) q_.1 (by decide)))))))))), hfσ349 k_ j_ (fun w_ => h_ (w_.elim (fun x0_ => Or.inl (x0_)) (fun y0_ => y0_.elim (fun x1_ => Or.inr (Or.inl (x1_))) (fun y1_ => y1_.elim (fun x2_ => Or.inr (Or.inr (Or.inl (x2_)))) (fun y2_ => y2_.elim (fun x3_ => Or.inr (Or.inr (Or.inr (Or.inl (x3_))))) (fun y3_ => y3_.elim (fun x4_ => Or.inr (Or.inr (Or.inr (Or.inr (Or.inl (x4_)))))) (fun y4_ => y4_.elim (fun x5_ => Or.inr (Or.inr (Or.inr (Or.inr (Or.inr (Or.inl (x5_))))))) (fun y5_ => Or.inr (Or.inr (Or.inr (Or.inr (Or.inr (Or.inr (Or.inl (y5_))))))))))))))), hfσ342 k_ j_ (fun w_ => h_ (w_.elim (fun x0_ => Or.inl (x0_)) (fun y0_ => y0_.elim (fun x1_ => Or.inr (Or.inl (x1_))) (fun y1_ => y1_.elim (fun x2_ => Or.inr (Or.inr (Or.inl (x2_)))) (fun y2_ => y2_.elim (fun x3_ => Or.inr (Or.inr (Or.inr (Or.inl (x3_))))) (fun y3_ => y3_.elim (fun x4_ => Or.inr (Or.inr (Or.inr (Or.inr (Or.inl (x4_)))))) (fun y4_ => y4_.elim (fun x5_ => Or.inr (Or.inr (Or.inr (Or.inr (Or.inr (Or.inl (x5_))))))) (fun y5_ => y5_.elim (fun x6_ => Or.inr (Or.inr (Or.inr (Or.inr (Or.inr (Or.inr (Or.inl (x6_)))))))) (fun y6_ => y6_.elim (fun x7_ => Or.inr (Or.inr (Or.inr (Or.inr (Or.inr (Or.inr (Or.inr (dk_wrr (lo := 144) (hi := 159) x7_ (by decide) (by decide))))))))) (fun y7_ => Or.inr (Or.inr (Or.inr (Or.inr (Or.inr (Or.inr (Or.inr (dk_wr (lo := 144) (hi := 159) y7_ (by decide)))))))))))))))))), hfσ336 k_ j_ (fun w_ => h_ (w_.elim (fun x0_ => Or.inr (Or.inr (Or.inl (x0_)))) (fun y0_ => y0_.elim (fun x1_ => Or.inr (Or.inr (Or.inr (Or.inl (x1_))))) (fun y1_ => y1_.elim (fun x2_ => Or.inr (Or.inr (Or.inr (Or.inr (Or.inl (x2_)))))) (fun y2_ => y2_.elim (fun x3_ => Or.inr (Or.inr (Or.inr (Or.inr (Or.inr (Or.inl (x3_))))))) (fun y3_ => Or.inr (Or.inr (Or.inr (Or.inr (Or.inr (Or.inr (Or.inl (y3_))))))))))))), hfσ326 k_ j_ (fun w_ => h_ (w_.elim (fun x0_ => Or.inl (x0_)) (fun y0_ => Or.inr (Or.inl (y0_)))))]), ⟨RX_rx hB gi359, fun a_ q_ => Or.inr (by have x_ := (gi359).1.2.2.1; have t_ := hT.2.2 q_; have y_ := H46.2.2.1; omega), by omega⟩⟩
            · skip
              have hz360 : σ342 141 3 = σ 141 3 := by rw [hfσ342 141 3 (by omega), hfσ336 141 3 (by omega), hfσ326 141 3 (by omega)]
              refine dk_cV (pc' := 86) (as := [(0, 0)]) hE lk_X11_301 (ct_X11_must l G hGd 0) dX11_readWorks_83 rfl is_141 rfl (by decide) (Nat.le_of_ble_eq_true rfl) ⟨rfl, (NX_tk (gi344).1), (by omega)⟩ rfl (fun r362 σ361 hr362 hor362 => ?_)
              obtain ⟨rfl, hfσ361, hpr362⟩ := hr362
              have gi363 : RX r σ336 σ361 := RX_tr gi344 hpr362 (fun k_ j_ h_ => hfσ361 k_ j_ (by omega))
              refine dk_aload_n (pc' := 87) hE dX11_readWorks_86 rfl rfl rfl ?_
              refine gf_11_11 (pc' := 90) (w := 144) hE fl_X11_20 dX11_readWorks_87 is_141 rfl rfl ?_
              refine dk_aload_n (pc' := 91) hE dX11_readWorks_90 rfl rfl rfl ?_
              refine gf_11_28 (pc' := 94) hE fl_X11_269 dX11_readWorks_91 is_141 rfl (fun v364 hv364 htv364 hbv364 => ?_)
              have hq364 : r = v364 := (show v364 = r by rw [hv364, hfσ361 141 28 (by omega), hfσ342 141 28 (by omega), hfσ336 141 28 (by omega), hfσ326 141 28 (by omega), hr]).symm
              subst hq364
              clear htv364 hbv364
              refine dk_dup2 (pc' := 95) hE dX11_readWorks_94 (show (0 : Nat) ≠ 3 by decide) (show (4 : Nat) ≠ 3 by decide) rfl ?_
              refine ga_72 (pc' := 96) hE dX11_readWorks_95 is_144 (by omega) rfl (fun v365 hv365 htv365 hbv365 => ?_)
              refine dk_iconst (pc' := 97) hE dX11_readWorks_96 (by decide) rfl ?_
              refine dk_iaddW (pc' := 98) hE dX11_readWorks_97 rfl (fun v366 hv366 _ => ?_)
              refine pa_72 (pc' := 99) hE dX11_readWorks_98 is_144 (by omega) trivial rfl (fun σ367 eσ367 => ?_)
              have hz368 : σ367 147 r = n := by rw [eσ367, dk_up_n (show ¬ (147 = 144 ∧ r = r) by omega), hfσ361 147 r (by omega), hfσ342 147 r (by omega), hfσ336 147 r (by omega), hfσ326 147 r (by omega), hn]
              have hz369 : σ367 145 r = w := by rw [eσ367, dk_up_n (show ¬ (145 = 144 ∧ r = r) by omega), hfσ361 145 r (by omega), hfσ342 145 r (by omega), hfσ336 145 r (by omega), hfσ326 145 r (by omega), hw]
              have hz370 : σ367 146 r = q := by rw [eσ367, dk_up_n (show ¬ (146 = 144 ∧ r = r) by omega), hfσ361 146 r (by omega), hfσ342 146 r (by omega), hfσ336 146 r (by omega), hfσ326 146 r (by omega), hq]
              have gi371 : RX r σ336 σ367 := RX_fr gi363 (fun k_ j_ h_ => by rw [eσ367, dk_up_n (show ¬ (k_ = 144 ∧ j_ = r) by omega)])
              exact dk_vret (st := []) hE hR dX11_readWorks_99 ⟨rfl, (fun k_ j_ h_ => by rw [eσ367, dk_up_n (show ¬ (k_ = 144 ∧ j_ = r) from fun q_ => h_ (Or.inr (Or.inr (Or.inr (Or.inr (Or.inr (Or.inr (Or.inr (dk_wr (lo := 144) (hi := 159) q_.1 (by decide)))))))))), hfσ361 k_ j_ (fun w_ => h_ (w_.elim (fun x0_ => Or.inl (x0_)) (fun y0_ => y0_.elim (fun x1_ => Or.inr (Or.inl (x1_))) (fun y1_ => y1_.elim (fun x2_ => Or.inr (Or.inr (Or.inl (x2_)))) (fun y2_ => y2_.elim (fun x3_ => Or.inr (Or.inr (Or.inr (Or.inl (x3_))))) (fun y3_ => y3_.elim (fun x4_ => Or.inr (Or.inr (Or.inr (Or.inr (Or.inl (x4_)))))) (fun y4_ => y4_.elim (fun x5_ => Or.inr (Or.inr (Or.inr (Or.inr (Or.inr (Or.inl (x5_))))))) (fun y5_ => Or.inr (Or.inr (Or.inr (Or.inr (Or.inr (Or.inr (Or.inl (y5_))))))))))))))), hfσ342 k_ j_ (fun w_ => h_ (w_.elim (fun x0_ => Or.inl (x0_)) (fun y0_ => y0_.elim (fun x1_ => Or.inr (Or.inl (x1_))) (fun y1_ => y1_.elim (fun x2_ => Or.inr (Or.inr (Or.inl (x2_)))) (fun y2_ => y2_.elim (fun x3_ => Or.inr (Or.inr (Or.inr (Or.inl (x3_))))) (fun y3_ => y3_.elim (fun x4_ => Or.inr (Or.inr (Or.inr (Or.inr (Or.inl (x4_)))))) (fun y4_ => y4_.elim (fun x5_ => Or.inr (Or.inr (Or.inr (Or.inr (Or.inr (Or.inl (x5_))))))) (fun y5_ => y5_.elim (fun x6_ => Or.inr (Or.inr (Or.inr (Or.inr (Or.inr (Or.inr (Or.inl (x6_)))))))) (fun y6_ => y6_.elim (fun x7_ => Or.inr (Or.inr (Or.inr (Or.inr (Or.inr (Or.inr (Or.inr (dk_wrr (lo := 144) (hi := 159) x7_ (by decide) (by decide))))))))) (fun y7_ => Or.inr (Or.inr (Or.inr (Or.inr (Or.inr (Or.inr (Or.inr (dk_wr (lo := 144) (hi := 159) y7_ (by decide)))))))))))))))))), hfσ336 k_ j_ (fun w_ => h_ (w_.elim (fun x0_ => Or.inr (Or.inr (Or.inl (x0_)))) (fun y0_ => y0_.elim (fun x1_ => Or.inr (Or.inr (Or.inr (Or.inl (x1_))))) (fun y1_ => y1_.elim (fun x2_ => Or.inr (Or.inr (Or.inr (Or.inr (Or.inl (x2_)))))) (fun y2_ => y2_.elim (fun x3_ => Or.inr (Or.inr (Or.inr (Or.inr (Or.inr (Or.inl (x3_))))))) (fun y3_ => Or.inr (Or.inr (Or.inr (Or.inr (Or.inr (Or.inr (Or.inl (y3_))))))))))))), hfσ326 k_ j_ (fun w_ => h_ (w_.elim (fun x0_ => Or.inl (x0_)) (fun y0_ => Or.inr (Or.inl (y0_)))))]), ⟨RX_rx hB gi371, fun a_ q_ => Or.inr (by have x_ := (gi371).1.2.2.1; have t_ := hT.2.2 q_; have y_ := H46.2.2.1; omega), by omega⟩⟩
          · skip
            refine dk_if_ne (tgt := 45) (pc' := 44) hE dX11_readWorks_41 (by decide) rfl (fun hc372 => absurd hc372 (by decide)) (fun hc372 => ?_)
            have hz373 : σ326 147 r = n := by rw [hfσ326 147 r (by omega), hn]
            have hz374 : σ326 145 r = w := by rw [hfσ326 145 r (by omega), hw]
            have hz375 : σ326 146 r = q := by rw [hfσ326 146 r (by omega), hq]
            exact dk_vret (st := []) hE hR dX11_readWorks_44 ⟨rfl, (fun k_ j_ h_ => by rw [hfσ326 k_ j_ (fun w_ => h_ (w_.elim (fun x0_ => Or.inl (x0_)) (fun y0_ => Or.inr (Or.inl (y0_)))))]), ⟨gi328, fun a_ q_ => Or.inl (by omega), by omega⟩⟩
        · skip
          refine dk_if_eq (tgt := 37) (pc' := 33) hE dX11_readWorks_30 (by decide) rfl (fun hc376 => ?_) (fun hc376 => absurd hc376 (by decide))
          refine dk_aload_n (pc' := 38) hE dX11_readWorks_37 rfl rfl rfl ?_
          refine dk_cV (pc' := 41) (as := []) hE lk_X11_250 (ct_X11_isGood l G hGd) dX11_readWorks_38 rfl is_141 rfl (by decide) (Nat.le_of_ble_eq_true rfl) rfl rfl (fun r378 σ377 hr378 hor378 => ?_)
          obtain ⟨v379, rfl, hfσ377, hpr378⟩ := hr378
          have hsσ377 : σ = σ377 := (funext (fun k => funext (fun j => hfσ377 k j not_false))).symm
          subst hsσ377
          rcases hpr378 with ⟨rfl, hpr378⟩ | ⟨rfl, hpr378⟩
          · skip
            refine dk_if_ne (tgt := 45) (pc' := 44) hE dX11_readWorks_41 (by decide) rfl (fun hc380 => ?_) (fun hc380 => absurd hc380 (by decide))
            refine dk_aload_n (pc' := 46) hE dX11_readWorks_45 rfl rfl rfl ?_
            refine dk_cV (pc' := 49) (as := []) hE lk_X11_254 (ct_X11_next l G hGd) dX11_readWorks_46 rfl is_141 rfl (by decide) (Nat.le_of_ble_eq_true rfl) ⟨rfl, ((NX_tk ((RX_of hT hTI)).1).2.1), (by omega)⟩ rfl (fun r382 σ381 hr382 hor382 => ?_)
            obtain ⟨rfl, hfσ381, hpr382⟩ := hr382
            have H46 := hpr382
            have gi383 : RX r σ σ381 := RX_y (RX_of hT hTI) hpr382 (fun k_ j_ h_ => hfσ381 k_ j_ (by omega))
            have hB : RX r σ σ381 := gi383
            have gi384 : RX r σ381 σ381 := RX_of (NX_tk hB.1) hB.2
            refine dk_iload_n (pc' := 50) hE dX11_readWorks_49 rfl rfl rfl ?_
            refine dk_if_eq (tgt := 60) (pc' := 53) hE dX11_readWorks_50 (by decide) rfl (fun hc385 => absurd hc385 (by decide)) (fun hc385 => ?_)
            refine dk_aload_n (pc' := 54) hE dX11_readWorks_53 rfl rfl rfl ?_
            have hz386 : σ381 141 3 = σ 141 3 := by rw [hfσ381 141 3 (by omega)]
            refine dk_cV (pc' := 57) (as := []) hE lk_X11_288 (ct_X11_readFloor l G hGd) dX11_readWorks_54 rfl is_141 rfl (by decide) (Nat.le_of_ble_eq_true rfl) ⟨rfl, (NX_tk (gi384).1), (by omega)⟩ rfl (fun r388 σ387 hr388 hor388 => ?_)
            obtain ⟨rfl, hfσ387, hpr388⟩ := hr388
            have gi389 : RX r σ381 σ387 := RX_tr gi384 hpr388 (fun k_ j_ h_ => hfσ387 k_ j_ (by omega))
            refine dk_goto (tgt := 76) hE dX11_readWorks_57 (by decide) ?_
            refine dk_aload_n (pc' := 77) hE dX11_readWorks_76 rfl rfl rfl ?_
            refine dk_aload_n (pc' := 78) hE dX11_readWorks_77 rfl rfl rfl ?_
            refine dk_bipush (pc' := 80) hE dX11_readWorks_78 (by decide) rfl ?_
            refine dk_cV (pc' := 83) (as := [(0, 59)]) hE lk_X11_298 (ct_X11_is l G hGd 59) dX11_readWorks_80 rfl is_141 rfl (by decide) (Nat.le_of_ble_eq_true rfl) rfl rfl (fun r391 σ390 hr391 hor391 => ?_)
            obtain ⟨v392, rfl, hfσ390, hpr391⟩ := hr391
            have hsσ390 : σ387 = σ390 := (funext (fun k => funext (fun j => hfσ390 k j not_false))).symm
            subst hsσ390
            rcases hpr391 with ⟨rfl, hpr391⟩ | rfl
            · skip
              have hz393 : σ387 141 3 = σ 141 3 := by rw [hfσ387 141 3 (by omega), hfσ381 141 3 (by omega)]
              refine dk_cV (pc' := 86) (as := [(0, 1)]) hE lk_X11_301 (ct_X11_must l G hGd 1) dX11_readWorks_83 rfl is_141 rfl (by decide) (Nat.le_of_ble_eq_true rfl) ⟨rfl, (NX_tk (gi389).1), (by omega)⟩ rfl (fun r395 σ394 hr395 hor395 => ?_)
              obtain ⟨rfl, hfσ394, hpr395⟩ := hr395
              have gi396 : RX r σ381 σ394 := RX_tr gi389 hpr395 (fun k_ j_ h_ => hfσ394 k_ j_ (by omega))
              refine dk_aload_n (pc' := 87) hE dX11_readWorks_86 rfl rfl rfl ?_
              refine gf_11_11 (pc' := 90) (w := 144) hE fl_X11_20 dX11_readWorks_87 is_141 rfl rfl ?_
              refine dk_aload_n (pc' := 91) hE dX11_readWorks_90 rfl rfl rfl ?_
              refine gf_11_28 (pc' := 94) hE fl_X11_269 dX11_readWorks_91 is_141 rfl (fun v397 hv397 htv397 hbv397 => ?_)
              have hq397 : r = v397 := (show v397 = r by rw [hv397, hfσ394 141 28 (by omega), hfσ387 141 28 (by omega), hfσ381 141 28 (by omega), hr]).symm
              subst hq397
              clear htv397 hbv397
              refine dk_dup2 (pc' := 95) hE dX11_readWorks_94 (show (0 : Nat) ≠ 3 by decide) (show (4 : Nat) ≠ 3 by decide) rfl ?_
              refine ga_72 (pc' := 96) hE dX11_readWorks_95 is_144 (by omega) rfl (fun v398 hv398 htv398 hbv398 => ?_)
              refine dk_iconst (pc' := 97) hE dX11_readWorks_96 (by decide) rfl ?_
              refine dk_iaddW (pc' := 98) hE dX11_readWorks_97 rfl (fun v399 hv399 _ => ?_)
              refine pa_72 (pc' := 99) hE dX11_readWorks_98 is_144 (by omega) trivial rfl (fun σ400 eσ400 => ?_)
              have hz401 : σ400 147 r = n := by rw [eσ400, dk_up_n (show ¬ (147 = 144 ∧ r = r) by omega), hfσ394 147 r (by omega), hfσ387 147 r (by omega), hfσ381 147 r (by omega), hn]
              have hz402 : σ400 145 r = w := by rw [eσ400, dk_up_n (show ¬ (145 = 144 ∧ r = r) by omega), hfσ394 145 r (by omega), hfσ387 145 r (by omega), hfσ381 145 r (by omega), hw]
              have hz403 : σ400 146 r = q := by rw [eσ400, dk_up_n (show ¬ (146 = 144 ∧ r = r) by omega), hfσ394 146 r (by omega), hfσ387 146 r (by omega), hfσ381 146 r (by omega), hq]
              have gi404 : RX r σ381 σ400 := RX_fr gi396 (fun k_ j_ h_ => by rw [eσ400, dk_up_n (show ¬ (k_ = 144 ∧ j_ = r) by omega)])
              exact dk_vret (st := []) hE hR dX11_readWorks_99 ⟨rfl, (fun k_ j_ h_ => by rw [eσ400, dk_up_n (show ¬ (k_ = 144 ∧ j_ = r) from fun q_ => h_ (Or.inr (Or.inr (Or.inr (Or.inr (Or.inr (Or.inr (Or.inr (dk_wr (lo := 144) (hi := 159) q_.1 (by decide)))))))))), hfσ394 k_ j_ (fun w_ => h_ (w_.elim (fun x0_ => Or.inl (x0_)) (fun y0_ => y0_.elim (fun x1_ => Or.inr (Or.inl (x1_))) (fun y1_ => y1_.elim (fun x2_ => Or.inr (Or.inr (Or.inl (x2_)))) (fun y2_ => y2_.elim (fun x3_ => Or.inr (Or.inr (Or.inr (Or.inl (x3_))))) (fun y3_ => y3_.elim (fun x4_ => Or.inr (Or.inr (Or.inr (Or.inr (Or.inl (x4_)))))) (fun y4_ => y4_.elim (fun x5_ => Or.inr (Or.inr (Or.inr (Or.inr (Or.inr (Or.inl (x5_))))))) (fun y5_ => Or.inr (Or.inr (Or.inr (Or.inr (Or.inr (Or.inr (Or.inl (y5_))))))))))))))), hfσ387 k_ j_ (fun w_ => h_ (w_.elim (fun x0_ => Or.inl (x0_)) (fun y0_ => y0_.elim (fun x1_ => Or.inr (Or.inl (x1_))) (fun y1_ => y1_.elim (fun x2_ => Or.inr (Or.inr (Or.inl (x2_)))) (fun y2_ => y2_.elim (fun x3_ => Or.inr (Or.inr (Or.inr (Or.inl (x3_))))) (fun y3_ => y3_.elim (fun x4_ => Or.inr (Or.inr (Or.inr (Or.inr (Or.inl (x4_)))))) (fun y4_ => y4_.elim (fun x5_ => Or.inr (Or.inr (Or.inr (Or.inr (Or.inr (Or.inl (x5_))))))) (fun y5_ => y5_.elim (fun x6_ => Or.inr (Or.inr (Or.inr (Or.inr (Or.inr (Or.inr (Or.inl (x6_)))))))) (fun y6_ => y6_.elim (fun x7_ => Or.inr (Or.inr (Or.inr (Or.inr (Or.inr (Or.inr (Or.inr (dk_wrr (lo := 144) (hi := 159) x7_ (by decide) (by decide))))))))) (fun y7_ => Or.inr (Or.inr (Or.inr (Or.inr (Or.inr (Or.inr (Or.inr (dk_wr (lo := 144) (hi := 159) y7_ (by decide)))))))))))))))))), hfσ381 k_ j_ (fun w_ => h_ (w_.elim (fun x0_ => Or.inr (Or.inr (Or.inl (x0_)))) (fun y0_ => y0_.elim (fun x1_ => Or.inr (Or.inr (Or.inr (Or.inl (x1_))))) (fun y1_ => y1_.elim (fun x2_ => Or.inr (Or.inr (Or.inr (Or.inr (Or.inl (x2_)))))) (fun y2_ => y2_.elim (fun x3_ => Or.inr (Or.inr (Or.inr (Or.inr (Or.inr (Or.inl (x3_))))))) (fun y3_ => Or.inr (Or.inr (Or.inr (Or.inr (Or.inr (Or.inr (Or.inl (y3_)))))))))))))]), ⟨RX_rx hB gi404, fun a_ q_ => Or.inr (by have x_ := (gi404).1.2.2.1; have t_ := hT.2.2 q_; have y_ := H46.2.2.1; omega), by omega⟩⟩
            · skip
              have hz405 : σ387 141 3 = σ 141 3 := by rw [hfσ387 141 3 (by omega), hfσ381 141 3 (by omega)]
              refine dk_cV (pc' := 86) (as := [(0, 0)]) hE lk_X11_301 (ct_X11_must l G hGd 0) dX11_readWorks_83 rfl is_141 rfl (by decide) (Nat.le_of_ble_eq_true rfl) ⟨rfl, (NX_tk (gi389).1), (by omega)⟩ rfl (fun r407 σ406 hr407 hor407 => ?_)
              obtain ⟨rfl, hfσ406, hpr407⟩ := hr407
              have gi408 : RX r σ381 σ406 := RX_tr gi389 hpr407 (fun k_ j_ h_ => hfσ406 k_ j_ (by omega))
              refine dk_aload_n (pc' := 87) hE dX11_readWorks_86 rfl rfl rfl ?_
              refine gf_11_11 (pc' := 90) (w := 144) hE fl_X11_20 dX11_readWorks_87 is_141 rfl rfl ?_
              refine dk_aload_n (pc' := 91) hE dX11_readWorks_90 rfl rfl rfl ?_
              refine gf_11_28 (pc' := 94) hE fl_X11_269 dX11_readWorks_91 is_141 rfl (fun v409 hv409 htv409 hbv409 => ?_)
              have hq409 : r = v409 := (show v409 = r by rw [hv409, hfσ406 141 28 (by omega), hfσ387 141 28 (by omega), hfσ381 141 28 (by omega), hr]).symm
              subst hq409
              clear htv409 hbv409
              refine dk_dup2 (pc' := 95) hE dX11_readWorks_94 (show (0 : Nat) ≠ 3 by decide) (show (4 : Nat) ≠ 3 by decide) rfl ?_
              refine ga_72 (pc' := 96) hE dX11_readWorks_95 is_144 (by omega) rfl (fun v410 hv410 htv410 hbv410 => ?_)
              refine dk_iconst (pc' := 97) hE dX11_readWorks_96 (by decide) rfl ?_
              refine dk_iaddW (pc' := 98) hE dX11_readWorks_97 rfl (fun v411 hv411 _ => ?_)
              refine pa_72 (pc' := 99) hE dX11_readWorks_98 is_144 (by omega) trivial rfl (fun σ412 eσ412 => ?_)
              have hz413 : σ412 147 r = n := by rw [eσ412, dk_up_n (show ¬ (147 = 144 ∧ r = r) by omega), hfσ406 147 r (by omega), hfσ387 147 r (by omega), hfσ381 147 r (by omega), hn]
              have hz414 : σ412 145 r = w := by rw [eσ412, dk_up_n (show ¬ (145 = 144 ∧ r = r) by omega), hfσ406 145 r (by omega), hfσ387 145 r (by omega), hfσ381 145 r (by omega), hw]
              have hz415 : σ412 146 r = q := by rw [eσ412, dk_up_n (show ¬ (146 = 144 ∧ r = r) by omega), hfσ406 146 r (by omega), hfσ387 146 r (by omega), hfσ381 146 r (by omega), hq]
              have gi416 : RX r σ381 σ412 := RX_fr gi408 (fun k_ j_ h_ => by rw [eσ412, dk_up_n (show ¬ (k_ = 144 ∧ j_ = r) by omega)])
              exact dk_vret (st := []) hE hR dX11_readWorks_99 ⟨rfl, (fun k_ j_ h_ => by rw [eσ412, dk_up_n (show ¬ (k_ = 144 ∧ j_ = r) from fun q_ => h_ (Or.inr (Or.inr (Or.inr (Or.inr (Or.inr (Or.inr (Or.inr (dk_wr (lo := 144) (hi := 159) q_.1 (by decide)))))))))), hfσ406 k_ j_ (fun w_ => h_ (w_.elim (fun x0_ => Or.inl (x0_)) (fun y0_ => y0_.elim (fun x1_ => Or.inr (Or.inl (x1_))) (fun y1_ => y1_.elim (fun x2_ => Or.inr (Or.inr (Or.inl (x2_)))) (fun y2_ => y2_.elim (fun x3_ => Or.inr (Or.inr (Or.inr (Or.inl (x3_))))) (fun y3_ => y3_.elim (fun x4_ => Or.inr (Or.inr (Or.inr (Or.inr (Or.inl (x4_)))))) (fun y4_ => y4_.elim (fun x5_ => Or.inr (Or.inr (Or.inr (Or.inr (Or.inr (Or.inl (x5_))))))) (fun y5_ => Or.inr (Or.inr (Or.inr (Or.inr (Or.inr (Or.inr (Or.inl (y5_))))))))))))))), hfσ387 k_ j_ (fun w_ => h_ (w_.elim (fun x0_ => Or.inl (x0_)) (fun y0_ => y0_.elim (fun x1_ => Or.inr (Or.inl (x1_))) (fun y1_ => y1_.elim (fun x2_ => Or.inr (Or.inr (Or.inl (x2_)))) (fun y2_ => y2_.elim (fun x3_ => Or.inr (Or.inr (Or.inr (Or.inl (x3_))))) (fun y3_ => y3_.elim (fun x4_ => Or.inr (Or.inr (Or.inr (Or.inr (Or.inl (x4_)))))) (fun y4_ => y4_.elim (fun x5_ => Or.inr (Or.inr (Or.inr (Or.inr (Or.inr (Or.inl (x5_))))))) (fun y5_ => y5_.elim (fun x6_ => Or.inr (Or.inr (Or.inr (Or.inr (Or.inr (Or.inr (Or.inl (x6_)))))))) (fun y6_ => y6_.elim (fun x7_ => Or.inr (Or.inr (Or.inr (Or.inr (Or.inr (Or.inr (Or.inr (dk_wrr (lo := 144) (hi := 159) x7_ (by decide) (by decide))))))))) (fun y7_ => Or.inr (Or.inr (Or.inr (Or.inr (Or.inr (Or.inr (Or.inr (dk_wr (lo := 144) (hi := 159) y7_ (by decide)))))))))))))))))), hfσ381 k_ j_ (fun w_ => h_ (w_.elim (fun x0_ => Or.inr (Or.inr (Or.inl (x0_)))) (fun y0_ => y0_.elim (fun x1_ => Or.inr (Or.inr (Or.inr (Or.inl (x1_))))) (fun y1_ => y1_.elim (fun x2_ => Or.inr (Or.inr (Or.inr (Or.inr (Or.inl (x2_)))))) (fun y2_ => y2_.elim (fun x3_ => Or.inr (Or.inr (Or.inr (Or.inr (Or.inr (Or.inl (x3_))))))) (fun y3_ => Or.inr (Or.inr (Or.inr (Or.inr (Or.inr (Or.inr (Or.inl (y3_)))))))))))))]), ⟨RX_rx hB gi416, fun a_ q_ => Or.inr (by have x_ := (gi416).1.2.2.1; have t_ := hT.2.2 q_; have y_ := H46.2.2.1; omega), by omega⟩⟩
          · skip
            refine dk_if_ne (tgt := 45) (pc' := 44) hE dX11_readWorks_41 (by decide) rfl (fun hc417 => absurd hc417 (by decide)) (fun hc417 => ?_)
            have hz418 : σ 147 r = n := by rw [hn]
            have hz419 : σ 145 r = w := by rw [hw]
            have hz420 : σ 146 r = q := by rw [hq]
            exact dk_vret (st := []) hE hR dX11_readWorks_44 ⟨rfl, (fun k_ j_ h_ => rfl), ⟨(RX_of hT hTI), fun a_ q_ => Or.inl (by omega), by omega⟩⟩
  · skip
    refine dk_istore_n (pc' := 8) (ls' := [(4, 141), (0, 0), (9, 0), (9, 0)]) hE dX11_readWorks_7 rfl rfl (by decide) rfl ?_
    refine dk_aload_n (pc' := 9) hE dX11_readWorks_8 rfl rfl rfl ?_
    refine dk_ldc2 (pc' := 12) hE dX11_readWorks_9 cs_X11_174 (by decide) rfl ?_
    refine dk_cV (pc' := 15) (as := [(3, 2003792491)]) hE lk_X11_281 (ct_X11_isWord l G hGd 2003792491) dX11_readWorks_12 rfl is_141 rfl (by decide) (Nat.le_of_ble_eq_true rfl) rfl rfl (fun r422 σ421 hr422 hor422 => ?_)
    obtain ⟨v423, rfl, hfσ421, hpr422⟩ := hr422
    have hsσ421 : σ = σ421 := (funext (fun k => funext (fun j => hfσ421 k j not_false))).symm
    subst hsσ421
    rcases hpr422 with ⟨rfl, hpr422⟩ | rfl
    · skip
      refine dk_istore_n (pc' := 16) (ls' := [(4, 141), (0, 0), (0, 1), (9, 0)]) hE dX11_readWorks_15 rfl rfl (by decide) rfl ?_
      refine dk_aload_n (pc' := 17) hE dX11_readWorks_16 rfl rfl rfl ?_
      refine dk_ldc2 (pc' := 20) hE dX11_readWorks_17 cs_X11_178 (by decide) rfl ?_
      refine dk_cV (pc' := 23) (as := [(3, 1852798053)]) hE lk_X11_281 (ct_X11_isWord l G hGd 1852798053) dX11_readWorks_20 rfl is_141 rfl (by decide) (Nat.le_of_ble_eq_true rfl) rfl rfl (fun r425 σ424 hr425 hor425 => ?_)
      obtain ⟨v426, rfl, hfσ424, hpr425⟩ := hr425
      have hsσ424 : σ = σ424 := (funext (fun k => funext (fun j => hfσ424 k j not_false))).symm
      subst hsσ424
      rcases hpr425 with ⟨rfl, hpr425⟩ | rfl
      · skip
        refine dk_istore_n (pc' := 24) (ls' := [(4, 141), (0, 0), (0, 1), (0, 1)]) hE dX11_readWorks_23 rfl rfl (by decide) rfl ?_
        refine dk_aload_n (pc' := 25) hE dX11_readWorks_24 rfl rfl rfl ?_
        refine dk_iload_n (pc' := 26) hE dX11_readWorks_25 rfl rfl rfl ?_
        refine dk_iload_n (pc' := 27) hE dX11_readWorks_26 rfl rfl rfl ?_
        have hz427 : σ 141 28 = r := by rw [hr]
        have hz428 : σ 145 r = w := by rw [hw]
        have hz429 : σ 146 r = q := by rw [hq]
        refine dk_cV (pc' := 30) (as := [(0, 0), (0, 1)]) hE lk_X11_284 (ct_X11_isFull l G hGd 0 1 r w q) dX11_readWorks_27 rfl is_141 rfl (by decide) (Nat.le_of_ble_eq_true rfl) ⟨rfl, (by omega), (by omega), (by omega), (by omega), (by omega), (by omega)⟩ rfl (fun r431 σ430 hr431 hor431 => ?_)
        obtain ⟨v432, rfl, hfσ430, hpr431⟩ := hr431
        have H27 := hpr431
        have hsσ430 : σ = σ430 := (funext (fun k => funext (fun j => hfσ430 k j not_false))).symm
        subst hsσ430
        rcases hpr431 with ⟨rfl, hpr431⟩ | ⟨rfl, hpr431⟩
        · skip
          refine dk_if_eq (tgt := 37) (pc' := 33) hE dX11_readWorks_30 (by decide) rfl (fun hc433 => absurd hc433 (by decide)) (fun hc433 => ?_)
          refine dk_aload_n (pc' := 34) hE dX11_readWorks_33 rfl rfl rfl ?_
          refine dk_cV (pc' := 37) (as := []) hE lk_X11_257 (ct_X11_wrong l G hGd) dX11_readWorks_34 rfl is_141 rfl (by decide) (Nat.le_of_ble_eq_true rfl) rfl rfl (fun r435 σ434 hr435 hor435 => ?_)
          obtain ⟨rfl, hfσ434, hpr435⟩ := hr435
          have gi436 : RX r σ σ434 := RX_f (RX_of hT hTI) hfσ434 hpr435
          refine dk_aload_n (pc' := 38) hE dX11_readWorks_37 rfl rfl rfl ?_
          refine dk_cV (pc' := 41) (as := []) hE lk_X11_250 (ct_X11_isGood l G hGd) dX11_readWorks_38 rfl is_141 rfl (by decide) (Nat.le_of_ble_eq_true rfl) rfl rfl (fun r438 σ437 hr438 hor438 => ?_)
          obtain ⟨v439, rfl, hfσ437, hpr438⟩ := hr438
          have hsσ437 : σ434 = σ437 := (funext (fun k => funext (fun j => hfσ437 k j not_false))).symm
          subst hsσ437
          rcases hpr438 with ⟨rfl, hpr438⟩ | ⟨rfl, hpr438⟩
          · skip
            refine dk_if_ne (tgt := 45) (pc' := 44) hE dX11_readWorks_41 (by decide) rfl (fun hc440 => ?_) (fun hc440 => absurd hc440 (by decide))
            refine dk_aload_n (pc' := 46) hE dX11_readWorks_45 rfl rfl rfl ?_
            have hz441 : σ434 141 7 = σ 141 7 := by rw [hfσ434 141 7 (by omega)]
            have hz442 : σ434 141 3 = σ 141 3 := by rw [hfσ434 141 3 (by omega)]
            have hz443 : σ434 141 3 = σ 141 3 := by rw [hfσ434 141 3 (by omega)]
            refine dk_cV (pc' := 49) (as := []) hE lk_X11_254 (ct_X11_next l G hGd) dX11_readWorks_46 rfl is_141 rfl (by decide) (Nat.le_of_ble_eq_true rfl) ⟨rfl, ((NX_tk (gi436).1).2.1), (by omega)⟩ rfl (fun r445 σ444 hr445 hor445 => ?_)
            obtain ⟨rfl, hfσ444, hpr445⟩ := hr445
            have H46 := hpr445
            have gi446 : RX r σ σ444 := RX_y gi436 hpr445 (fun k_ j_ h_ => hfσ444 k_ j_ (by omega))
            have hB : RX r σ σ444 := gi446
            have gi447 : RX r σ444 σ444 := RX_of (NX_tk hB.1) hB.2
            refine dk_iload_n (pc' := 50) hE dX11_readWorks_49 rfl rfl rfl ?_
            refine dk_if_eq (tgt := 60) (pc' := 53) hE dX11_readWorks_50 (by decide) rfl (fun hc448 => ?_) (fun hc448 => absurd hc448 (by decide))
            refine dk_iload_n (pc' := 61) hE dX11_readWorks_60 rfl rfl rfl ?_
            refine dk_if_eq (tgt := 71) (pc' := 64) hE dX11_readWorks_61 (by decide) rfl (fun hc449 => absurd hc449 (by decide)) (fun hc449 => ?_)
            refine dk_aload_n (pc' := 65) hE dX11_readWorks_64 rfl rfl rfl ?_
            have hz450 : σ444 141 3 = σ 141 3 := by rw [hfσ444 141 3 (by omega), hfσ434 141 3 (by omega)]
            have hz451 : σ444 141 28 = r := by rw [hfσ444 141 28 (by omega), hfσ434 141 28 (by omega), hr]
            have hz452 : σ444 147 r = n := by rw [hfσ444 147 r (by omega), hfσ434 147 r (by omega), hn]
            have hz453 : σ444 145 r = w := by rw [hfσ444 145 r (by omega), hfσ434 145 r (by omega), hw]
            refine dk_cV (pc' := 68) (as := []) hE lk_X11_291 (ct_X11_readWork l G hGd r n w) dX11_readWorks_65 rfl is_141 rfl (by decide) (Nat.le_of_ble_eq_true rfl) ⟨rfl, (NX_tk (gi447).1), (by omega), (by omega), (by omega), (by omega), (by omega), (by omega), (by omega)⟩ rfl (fun r455 σ454 hr455 hor455 => ?_)
            obtain ⟨rfl, hfσ454, hpr455⟩ := hr455
            have gi456 : RX r σ444 σ454 := RX_tr gi447 hpr455.1 (fun k_ j_ h_ => hfσ454 k_ j_ (by omega))
            refine dk_goto (tgt := 76) hE dX11_readWorks_68 (by decide) ?_
            refine dk_aload_n (pc' := 77) hE dX11_readWorks_76 rfl rfl rfl ?_
            refine dk_aload_n (pc' := 78) hE dX11_readWorks_77 rfl rfl rfl ?_
            refine dk_bipush (pc' := 80) hE dX11_readWorks_78 (by decide) rfl ?_
            refine dk_cV (pc' := 83) (as := [(0, 59)]) hE lk_X11_298 (ct_X11_is l G hGd 59) dX11_readWorks_80 rfl is_141 rfl (by decide) (Nat.le_of_ble_eq_true rfl) rfl rfl (fun r458 σ457 hr458 hor458 => ?_)
            obtain ⟨v459, rfl, hfσ457, hpr458⟩ := hr458
            have hsσ457 : σ454 = σ457 := (funext (fun k => funext (fun j => hfσ457 k j not_false))).symm
            subst hsσ457
            rcases hpr458 with ⟨rfl, hpr458⟩ | rfl
            · skip
              have hz460 : σ454 141 3 = σ 141 3 := by rw [hfσ454 141 3 (by omega), hfσ444 141 3 (by omega), hfσ434 141 3 (by omega)]
              refine dk_cV (pc' := 86) (as := [(0, 1)]) hE lk_X11_301 (ct_X11_must l G hGd 1) dX11_readWorks_83 rfl is_141 rfl (by decide) (Nat.le_of_ble_eq_true rfl) ⟨rfl, (NX_tk (gi456).1), (by omega)⟩ rfl (fun r462 σ461 hr462 hor462 => ?_)
              obtain ⟨rfl, hfσ461, hpr462⟩ := hr462
              have gi463 : RX r σ444 σ461 := RX_tr gi456 hpr462 (fun k_ j_ h_ => hfσ461 k_ j_ (by omega))
              refine dk_aload_n (pc' := 87) hE dX11_readWorks_86 rfl rfl rfl ?_
              refine gf_11_11 (pc' := 90) (w := 144) hE fl_X11_20 dX11_readWorks_87 is_141 rfl rfl ?_
              refine dk_aload_n (pc' := 91) hE dX11_readWorks_90 rfl rfl rfl ?_
              refine gf_11_28 (pc' := 94) hE fl_X11_269 dX11_readWorks_91 is_141 rfl (fun v464 hv464 htv464 hbv464 => ?_)
              have hq464 : r = v464 := (show v464 = r by rw [hv464, hfσ461 141 28 (by omega), hfσ454 141 28 (by omega), hfσ444 141 28 (by omega), hfσ434 141 28 (by omega), hr]).symm
              subst hq464
              clear htv464 hbv464
              refine dk_dup2 (pc' := 95) hE dX11_readWorks_94 (show (0 : Nat) ≠ 3 by decide) (show (4 : Nat) ≠ 3 by decide) rfl ?_
              refine ga_72 (pc' := 96) hE dX11_readWorks_95 is_144 (by omega) rfl (fun v465 hv465 htv465 hbv465 => ?_)
              refine dk_iconst (pc' := 97) hE dX11_readWorks_96 (by decide) rfl ?_
              refine dk_iaddW (pc' := 98) hE dX11_readWorks_97 rfl (fun v466 hv466 _ => ?_)
              refine pa_72 (pc' := 99) hE dX11_readWorks_98 is_144 (by omega) trivial rfl (fun σ467 eσ467 => ?_)
              have hz468 : σ467 147 r = n + 1 := by rw [eσ467, dk_up_n (show ¬ (147 = 144 ∧ r = r) by omega), hfσ461 147 r (by omega), (hpr455.2.1).symm]
              have hz469 : σ467 145 r = w + 1 := by rw [eσ467, dk_up_n (show ¬ (145 = 144 ∧ r = r) by omega), hfσ461 145 r (by omega), (hpr455.2.2).symm]
              have hz470 : σ467 146 r = q := by rw [eσ467, dk_up_n (show ¬ (146 = 144 ∧ r = r) by omega), hfσ461 146 r (by omega), hfσ454 146 r (by omega), hfσ444 146 r (by omega), hfσ434 146 r (by omega), hq]
              have gi471 : RX r σ444 σ467 := RX_fr gi463 (fun k_ j_ h_ => by rw [eσ467, dk_up_n (show ¬ (k_ = 144 ∧ j_ = r) by omega)])
              exact dk_vret (st := []) hE hR dX11_readWorks_99 ⟨rfl, (fun k_ j_ h_ => by rw [eσ467, dk_up_n (show ¬ (k_ = 144 ∧ j_ = r) from fun q_ => h_ (Or.inr (Or.inr (Or.inr (Or.inr (Or.inr (Or.inr (Or.inr (dk_wr (lo := 144) (hi := 159) q_.1 (by decide)))))))))), hfσ461 k_ j_ (fun w_ => h_ (w_.elim (fun x0_ => Or.inl (x0_)) (fun y0_ => y0_.elim (fun x1_ => Or.inr (Or.inl (x1_))) (fun y1_ => y1_.elim (fun x2_ => Or.inr (Or.inr (Or.inl (x2_)))) (fun y2_ => y2_.elim (fun x3_ => Or.inr (Or.inr (Or.inr (Or.inl (x3_))))) (fun y3_ => y3_.elim (fun x4_ => Or.inr (Or.inr (Or.inr (Or.inr (Or.inl (x4_)))))) (fun y4_ => y4_.elim (fun x5_ => Or.inr (Or.inr (Or.inr (Or.inr (Or.inr (Or.inl (x5_))))))) (fun y5_ => Or.inr (Or.inr (Or.inr (Or.inr (Or.inr (Or.inr (Or.inl (y5_))))))))))))))), hfσ454 k_ j_ (fun w_ => h_ (w_.elim (fun x0_ => Or.inl (x0_)) (fun y0_ => y0_.elim (fun x1_ => Or.inr (Or.inl (x1_))) (fun y1_ => y1_.elim (fun x2_ => Or.inr (Or.inr (Or.inl (x2_)))) (fun y2_ => y2_.elim (fun x3_ => Or.inr (Or.inr (Or.inr (Or.inl (x3_))))) (fun y3_ => y3_.elim (fun x4_ => Or.inr (Or.inr (Or.inr (Or.inr (Or.inl (x4_)))))) (fun y4_ => y4_.elim (fun x5_ => Or.inr (Or.inr (Or.inr (Or.inr (Or.inr (Or.inl (x5_))))))) (fun y5_ => y5_.elim (fun x6_ => Or.inr (Or.inr (Or.inr (Or.inr (Or.inr (Or.inr (Or.inl (x6_)))))))) (fun y6_ => y6_.elim (fun x7_ => Or.inr (Or.inr (Or.inr (Or.inr (Or.inr (Or.inr (Or.inr (dk_wr (lo := 144) (hi := 159) x7_ (by decide))))))))) (fun y7_ => y7_.elim (fun x8_ => Or.inr (Or.inr (Or.inr (Or.inr (Or.inr (Or.inr (Or.inr (dk_wr (lo := 144) (hi := 159) x8_ (by decide))))))))) (fun y8_ => Or.inr (Or.inr (Or.inr (Or.inr (Or.inr (Or.inr (Or.inr (dk_wr (lo := 144) (hi := 159) y8_ (by decide))))))))))))))))))), hfσ444 k_ j_ (fun w_ => h_ (w_.elim (fun x0_ => Or.inr (Or.inr (Or.inl (x0_)))) (fun y0_ => y0_.elim (fun x1_ => Or.inr (Or.inr (Or.inr (Or.inl (x1_))))) (fun y1_ => y1_.elim (fun x2_ => Or.inr (Or.inr (Or.inr (Or.inr (Or.inl (x2_)))))) (fun y2_ => y2_.elim (fun x3_ => Or.inr (Or.inr (Or.inr (Or.inr (Or.inr (Or.inl (x3_))))))) (fun y3_ => Or.inr (Or.inr (Or.inr (Or.inr (Or.inr (Or.inr (Or.inl (y3_))))))))))))), hfσ434 k_ j_ (fun w_ => h_ (w_.elim (fun x0_ => Or.inl (x0_)) (fun y0_ => Or.inr (Or.inl (y0_)))))]), ⟨RX_rx hB gi471, fun a_ q_ => Or.inr (by have x_ := (gi471).1.2.2.1; have t_ := hT.2.2 q_; have y_ := H46.2.2.1; omega), by omega⟩⟩
            · skip
              have hz472 : σ454 141 3 = σ 141 3 := by rw [hfσ454 141 3 (by omega), hfσ444 141 3 (by omega), hfσ434 141 3 (by omega)]
              refine dk_cV (pc' := 86) (as := [(0, 0)]) hE lk_X11_301 (ct_X11_must l G hGd 0) dX11_readWorks_83 rfl is_141 rfl (by decide) (Nat.le_of_ble_eq_true rfl) ⟨rfl, (NX_tk (gi456).1), (by omega)⟩ rfl (fun r474 σ473 hr474 hor474 => ?_)
              obtain ⟨rfl, hfσ473, hpr474⟩ := hr474
              have gi475 : RX r σ444 σ473 := RX_tr gi456 hpr474 (fun k_ j_ h_ => hfσ473 k_ j_ (by omega))
              refine dk_aload_n (pc' := 87) hE dX11_readWorks_86 rfl rfl rfl ?_
              refine gf_11_11 (pc' := 90) (w := 144) hE fl_X11_20 dX11_readWorks_87 is_141 rfl rfl ?_
              refine dk_aload_n (pc' := 91) hE dX11_readWorks_90 rfl rfl rfl ?_
              refine gf_11_28 (pc' := 94) hE fl_X11_269 dX11_readWorks_91 is_141 rfl (fun v476 hv476 htv476 hbv476 => ?_)
              have hq476 : r = v476 := (show v476 = r by rw [hv476, hfσ473 141 28 (by omega), hfσ454 141 28 (by omega), hfσ444 141 28 (by omega), hfσ434 141 28 (by omega), hr]).symm
              subst hq476
              clear htv476 hbv476
              refine dk_dup2 (pc' := 95) hE dX11_readWorks_94 (show (0 : Nat) ≠ 3 by decide) (show (4 : Nat) ≠ 3 by decide) rfl ?_
              refine ga_72 (pc' := 96) hE dX11_readWorks_95 is_144 (by omega) rfl (fun v477 hv477 htv477 hbv477 => ?_)
              refine dk_iconst (pc' := 97) hE dX11_readWorks_96 (by decide) rfl ?_
              refine dk_iaddW (pc' := 98) hE dX11_readWorks_97 rfl (fun v478 hv478 _ => ?_)
              refine pa_72 (pc' := 99) hE dX11_readWorks_98 is_144 (by omega) trivial rfl (fun σ479 eσ479 => ?_)
              have hz480 : σ479 147 r = n + 1 := by rw [eσ479, dk_up_n (show ¬ (147 = 144 ∧ r = r) by omega), hfσ473 147 r (by omega), (hpr455.2.1).symm]
              have hz481 : σ479 145 r = w + 1 := by rw [eσ479, dk_up_n (show ¬ (145 = 144 ∧ r = r) by omega), hfσ473 145 r (by omega), (hpr455.2.2).symm]
              have hz482 : σ479 146 r = q := by rw [eσ479, dk_up_n (show ¬ (146 = 144 ∧ r = r) by omega), hfσ473 146 r (by omega), hfσ454 146 r (by omega), hfσ444 146 r (by omega), hfσ434 146 r (by omega), hq]
              have gi483 : RX r σ444 σ479 := RX_fr gi475 (fun k_ j_ h_ => by rw [eσ479, dk_up_n (show ¬ (k_ = 144 ∧ j_ = r) by omega)])
              exact dk_vret (st := []) hE hR dX11_readWorks_99 ⟨rfl, (fun k_ j_ h_ => by rw [eσ479, dk_up_n (show ¬ (k_ = 144 ∧ j_ = r) from fun q_ => h_ (Or.inr (Or.inr (Or.inr (Or.inr (Or.inr (Or.inr (Or.inr (dk_wr (lo := 144) (hi := 159) q_.1 (by decide)))))))))), hfσ473 k_ j_ (fun w_ => h_ (w_.elim (fun x0_ => Or.inl (x0_)) (fun y0_ => y0_.elim (fun x1_ => Or.inr (Or.inl (x1_))) (fun y1_ => y1_.elim (fun x2_ => Or.inr (Or.inr (Or.inl (x2_)))) (fun y2_ => y2_.elim (fun x3_ => Or.inr (Or.inr (Or.inr (Or.inl (x3_))))) (fun y3_ => y3_.elim (fun x4_ => Or.inr (Or.inr (Or.inr (Or.inr (Or.inl (x4_)))))) (fun y4_ => y4_.elim (fun x5_ => Or.inr (Or.inr (Or.inr (Or.inr (Or.inr (Or.inl (x5_))))))) (fun y5_ => Or.inr (Or.inr (Or.inr (Or.inr (Or.inr (Or.inr (Or.inl (y5_))))))))))))))), hfσ454 k_ j_ (fun w_ => h_ (w_.elim (fun x0_ => Or.inl (x0_)) (fun y0_ => y0_.elim (fun x1_ => Or.inr (Or.inl (x1_))) (fun y1_ => y1_.elim (fun x2_ => Or.inr (Or.inr (Or.inl (x2_)))) (fun y2_ => y2_.elim (fun x3_ => Or.inr (Or.inr (Or.inr (Or.inl (x3_))))) (fun y3_ => y3_.elim (fun x4_ => Or.inr (Or.inr (Or.inr (Or.inr (Or.inl (x4_)))))) (fun y4_ => y4_.elim (fun x5_ => Or.inr (Or.inr (Or.inr (Or.inr (Or.inr (Or.inl (x5_))))))) (fun y5_ => y5_.elim (fun x6_ => Or.inr (Or.inr (Or.inr (Or.inr (Or.inr (Or.inr (Or.inl (x6_)))))))) (fun y6_ => y6_.elim (fun x7_ => Or.inr (Or.inr (Or.inr (Or.inr (Or.inr (Or.inr (Or.inr (dk_wr (lo := 144) (hi := 159) x7_ (by decide))))))))) (fun y7_ => y7_.elim (fun x8_ => Or.inr (Or.inr (Or.inr (Or.inr (Or.inr (Or.inr (Or.inr (dk_wr (lo := 144) (hi := 159) x8_ (by decide))))))))) (fun y8_ => Or.inr (Or.inr (Or.inr (Or.inr (Or.inr (Or.inr (Or.inr (dk_wr (lo := 144) (hi := 159) y8_ (by decide))))))))))))))))))), hfσ444 k_ j_ (fun w_ => h_ (w_.elim (fun x0_ => Or.inr (Or.inr (Or.inl (x0_)))) (fun y0_ => y0_.elim (fun x1_ => Or.inr (Or.inr (Or.inr (Or.inl (x1_))))) (fun y1_ => y1_.elim (fun x2_ => Or.inr (Or.inr (Or.inr (Or.inr (Or.inl (x2_)))))) (fun y2_ => y2_.elim (fun x3_ => Or.inr (Or.inr (Or.inr (Or.inr (Or.inr (Or.inl (x3_))))))) (fun y3_ => Or.inr (Or.inr (Or.inr (Or.inr (Or.inr (Or.inr (Or.inl (y3_))))))))))))), hfσ434 k_ j_ (fun w_ => h_ (w_.elim (fun x0_ => Or.inl (x0_)) (fun y0_ => Or.inr (Or.inl (y0_)))))]), ⟨RX_rx hB gi483, fun a_ q_ => Or.inr (by have x_ := (gi483).1.2.2.1; have t_ := hT.2.2 q_; have y_ := H46.2.2.1; omega), by omega⟩⟩
          · skip
            refine dk_if_ne (tgt := 45) (pc' := 44) hE dX11_readWorks_41 (by decide) rfl (fun hc484 => absurd hc484 (by decide)) (fun hc484 => ?_)
            have hz485 : σ434 147 r = n := by rw [hfσ434 147 r (by omega), hn]
            have hz486 : σ434 145 r = w := by rw [hfσ434 145 r (by omega), hw]
            have hz487 : σ434 146 r = q := by rw [hfσ434 146 r (by omega), hq]
            exact dk_vret (st := []) hE hR dX11_readWorks_44 ⟨rfl, (fun k_ j_ h_ => by rw [hfσ434 k_ j_ (fun w_ => h_ (w_.elim (fun x0_ => Or.inl (x0_)) (fun y0_ => Or.inr (Or.inl (y0_)))))]), ⟨gi436, fun a_ q_ => Or.inl (by omega), by omega⟩⟩
        · skip
          refine dk_if_eq (tgt := 37) (pc' := 33) hE dX11_readWorks_30 (by decide) rfl (fun hc488 => ?_) (fun hc488 => absurd hc488 (by decide))
          refine dk_aload_n (pc' := 38) hE dX11_readWorks_37 rfl rfl rfl ?_
          refine dk_cV (pc' := 41) (as := []) hE lk_X11_250 (ct_X11_isGood l G hGd) dX11_readWorks_38 rfl is_141 rfl (by decide) (Nat.le_of_ble_eq_true rfl) rfl rfl (fun r490 σ489 hr490 hor490 => ?_)
          obtain ⟨v491, rfl, hfσ489, hpr490⟩ := hr490
          have hsσ489 : σ = σ489 := (funext (fun k => funext (fun j => hfσ489 k j not_false))).symm
          subst hsσ489
          rcases hpr490 with ⟨rfl, hpr490⟩ | ⟨rfl, hpr490⟩
          · skip
            refine dk_if_ne (tgt := 45) (pc' := 44) hE dX11_readWorks_41 (by decide) rfl (fun hc492 => ?_) (fun hc492 => absurd hc492 (by decide))
            refine dk_aload_n (pc' := 46) hE dX11_readWorks_45 rfl rfl rfl ?_
            refine dk_cV (pc' := 49) (as := []) hE lk_X11_254 (ct_X11_next l G hGd) dX11_readWorks_46 rfl is_141 rfl (by decide) (Nat.le_of_ble_eq_true rfl) ⟨rfl, ((NX_tk ((RX_of hT hTI)).1).2.1), (by omega)⟩ rfl (fun r494 σ493 hr494 hor494 => ?_)
            obtain ⟨rfl, hfσ493, hpr494⟩ := hr494
            have H46 := hpr494
            have gi495 : RX r σ σ493 := RX_y (RX_of hT hTI) hpr494 (fun k_ j_ h_ => hfσ493 k_ j_ (by omega))
            have hB : RX r σ σ493 := gi495
            have gi496 : RX r σ493 σ493 := RX_of (NX_tk hB.1) hB.2
            refine dk_iload_n (pc' := 50) hE dX11_readWorks_49 rfl rfl rfl ?_
            refine dk_if_eq (tgt := 60) (pc' := 53) hE dX11_readWorks_50 (by decide) rfl (fun hc497 => ?_) (fun hc497 => absurd hc497 (by decide))
            refine dk_iload_n (pc' := 61) hE dX11_readWorks_60 rfl rfl rfl ?_
            refine dk_if_eq (tgt := 71) (pc' := 64) hE dX11_readWorks_61 (by decide) rfl (fun hc498 => absurd hc498 (by decide)) (fun hc498 => ?_)
            refine dk_aload_n (pc' := 65) hE dX11_readWorks_64 rfl rfl rfl ?_
            have hz499 : σ493 141 3 = σ 141 3 := by rw [hfσ493 141 3 (by omega)]
            have hz500 : σ493 141 28 = r := by rw [hfσ493 141 28 (by omega), hr]
            have hz501 : σ493 147 r = n := by rw [hfσ493 147 r (by omega), hn]
            have hz502 : σ493 145 r = w := by rw [hfσ493 145 r (by omega), hw]
            refine dk_cV (pc' := 68) (as := []) hE lk_X11_291 (ct_X11_readWork l G hGd r n w) dX11_readWorks_65 rfl is_141 rfl (by decide) (Nat.le_of_ble_eq_true rfl) ⟨rfl, (NX_tk (gi496).1), (by omega), (by omega), (by omega), (by omega), (by omega), (by omega), (by omega)⟩ rfl (fun r504 σ503 hr504 hor504 => ?_)
            obtain ⟨rfl, hfσ503, hpr504⟩ := hr504
            have gi505 : RX r σ493 σ503 := RX_tr gi496 hpr504.1 (fun k_ j_ h_ => hfσ503 k_ j_ (by omega))
            refine dk_goto (tgt := 76) hE dX11_readWorks_68 (by decide) ?_
            refine dk_aload_n (pc' := 77) hE dX11_readWorks_76 rfl rfl rfl ?_
            refine dk_aload_n (pc' := 78) hE dX11_readWorks_77 rfl rfl rfl ?_
            refine dk_bipush (pc' := 80) hE dX11_readWorks_78 (by decide) rfl ?_
            refine dk_cV (pc' := 83) (as := [(0, 59)]) hE lk_X11_298 (ct_X11_is l G hGd 59) dX11_readWorks_80 rfl is_141 rfl (by decide) (Nat.le_of_ble_eq_true rfl) rfl rfl (fun r507 σ506 hr507 hor507 => ?_)
            obtain ⟨v508, rfl, hfσ506, hpr507⟩ := hr507
            have hsσ506 : σ503 = σ506 := (funext (fun k => funext (fun j => hfσ506 k j not_false))).symm
            subst hsσ506
            rcases hpr507 with ⟨rfl, hpr507⟩ | rfl
            · skip
              have hz509 : σ503 141 3 = σ 141 3 := by rw [hfσ503 141 3 (by omega), hfσ493 141 3 (by omega)]
              refine dk_cV (pc' := 86) (as := [(0, 1)]) hE lk_X11_301 (ct_X11_must l G hGd 1) dX11_readWorks_83 rfl is_141 rfl (by decide) (Nat.le_of_ble_eq_true rfl) ⟨rfl, (NX_tk (gi505).1), (by omega)⟩ rfl (fun r511 σ510 hr511 hor511 => ?_)
              obtain ⟨rfl, hfσ510, hpr511⟩ := hr511
              have gi512 : RX r σ493 σ510 := RX_tr gi505 hpr511 (fun k_ j_ h_ => hfσ510 k_ j_ (by omega))
              refine dk_aload_n (pc' := 87) hE dX11_readWorks_86 rfl rfl rfl ?_
              refine gf_11_11 (pc' := 90) (w := 144) hE fl_X11_20 dX11_readWorks_87 is_141 rfl rfl ?_
              refine dk_aload_n (pc' := 91) hE dX11_readWorks_90 rfl rfl rfl ?_
              refine gf_11_28 (pc' := 94) hE fl_X11_269 dX11_readWorks_91 is_141 rfl (fun v513 hv513 htv513 hbv513 => ?_)
              have hq513 : r = v513 := (show v513 = r by rw [hv513, hfσ510 141 28 (by omega), hfσ503 141 28 (by omega), hfσ493 141 28 (by omega), hr]).symm
              subst hq513
              clear htv513 hbv513
              refine dk_dup2 (pc' := 95) hE dX11_readWorks_94 (show (0 : Nat) ≠ 3 by decide) (show (4 : Nat) ≠ 3 by decide) rfl ?_
              refine ga_72 (pc' := 96) hE dX11_readWorks_95 is_144 (by omega) rfl (fun v514 hv514 htv514 hbv514 => ?_)
              refine dk_iconst (pc' := 97) hE dX11_readWorks_96 (by decide) rfl ?_
              refine dk_iaddW (pc' := 98) hE dX11_readWorks_97 rfl (fun v515 hv515 _ => ?_)
              refine pa_72 (pc' := 99) hE dX11_readWorks_98 is_144 (by omega) trivial rfl (fun σ516 eσ516 => ?_)
              have hz517 : σ516 147 r = n + 1 := by rw [eσ516, dk_up_n (show ¬ (147 = 144 ∧ r = r) by omega), hfσ510 147 r (by omega), (hpr504.2.1).symm]
              have hz518 : σ516 145 r = w + 1 := by rw [eσ516, dk_up_n (show ¬ (145 = 144 ∧ r = r) by omega), hfσ510 145 r (by omega), (hpr504.2.2).symm]
              have hz519 : σ516 146 r = q := by rw [eσ516, dk_up_n (show ¬ (146 = 144 ∧ r = r) by omega), hfσ510 146 r (by omega), hfσ503 146 r (by omega), hfσ493 146 r (by omega), hq]
              have gi520 : RX r σ493 σ516 := RX_fr gi512 (fun k_ j_ h_ => by rw [eσ516, dk_up_n (show ¬ (k_ = 144 ∧ j_ = r) by omega)])
              exact dk_vret (st := []) hE hR dX11_readWorks_99 ⟨rfl, (fun k_ j_ h_ => by rw [eσ516, dk_up_n (show ¬ (k_ = 144 ∧ j_ = r) from fun q_ => h_ (Or.inr (Or.inr (Or.inr (Or.inr (Or.inr (Or.inr (Or.inr (dk_wr (lo := 144) (hi := 159) q_.1 (by decide)))))))))), hfσ510 k_ j_ (fun w_ => h_ (w_.elim (fun x0_ => Or.inl (x0_)) (fun y0_ => y0_.elim (fun x1_ => Or.inr (Or.inl (x1_))) (fun y1_ => y1_.elim (fun x2_ => Or.inr (Or.inr (Or.inl (x2_)))) (fun y2_ => y2_.elim (fun x3_ => Or.inr (Or.inr (Or.inr (Or.inl (x3_))))) (fun y3_ => y3_.elim (fun x4_ => Or.inr (Or.inr (Or.inr (Or.inr (Or.inl (x4_)))))) (fun y4_ => y4_.elim (fun x5_ => Or.inr (Or.inr (Or.inr (Or.inr (Or.inr (Or.inl (x5_))))))) (fun y5_ => Or.inr (Or.inr (Or.inr (Or.inr (Or.inr (Or.inr (Or.inl (y5_))))))))))))))), hfσ503 k_ j_ (fun w_ => h_ (w_.elim (fun x0_ => Or.inl (x0_)) (fun y0_ => y0_.elim (fun x1_ => Or.inr (Or.inl (x1_))) (fun y1_ => y1_.elim (fun x2_ => Or.inr (Or.inr (Or.inl (x2_)))) (fun y2_ => y2_.elim (fun x3_ => Or.inr (Or.inr (Or.inr (Or.inl (x3_))))) (fun y3_ => y3_.elim (fun x4_ => Or.inr (Or.inr (Or.inr (Or.inr (Or.inl (x4_)))))) (fun y4_ => y4_.elim (fun x5_ => Or.inr (Or.inr (Or.inr (Or.inr (Or.inr (Or.inl (x5_))))))) (fun y5_ => y5_.elim (fun x6_ => Or.inr (Or.inr (Or.inr (Or.inr (Or.inr (Or.inr (Or.inl (x6_)))))))) (fun y6_ => y6_.elim (fun x7_ => Or.inr (Or.inr (Or.inr (Or.inr (Or.inr (Or.inr (Or.inr (dk_wr (lo := 144) (hi := 159) x7_ (by decide))))))))) (fun y7_ => y7_.elim (fun x8_ => Or.inr (Or.inr (Or.inr (Or.inr (Or.inr (Or.inr (Or.inr (dk_wr (lo := 144) (hi := 159) x8_ (by decide))))))))) (fun y8_ => Or.inr (Or.inr (Or.inr (Or.inr (Or.inr (Or.inr (Or.inr (dk_wr (lo := 144) (hi := 159) y8_ (by decide))))))))))))))))))), hfσ493 k_ j_ (fun w_ => h_ (w_.elim (fun x0_ => Or.inr (Or.inr (Or.inl (x0_)))) (fun y0_ => y0_.elim (fun x1_ => Or.inr (Or.inr (Or.inr (Or.inl (x1_))))) (fun y1_ => y1_.elim (fun x2_ => Or.inr (Or.inr (Or.inr (Or.inr (Or.inl (x2_)))))) (fun y2_ => y2_.elim (fun x3_ => Or.inr (Or.inr (Or.inr (Or.inr (Or.inr (Or.inl (x3_))))))) (fun y3_ => Or.inr (Or.inr (Or.inr (Or.inr (Or.inr (Or.inr (Or.inl (y3_)))))))))))))]), ⟨RX_rx hB gi520, fun a_ q_ => Or.inr (by have x_ := (gi520).1.2.2.1; have t_ := hT.2.2 q_; have y_ := H46.2.2.1; omega), by omega⟩⟩
            · skip
              have hz521 : σ503 141 3 = σ 141 3 := by rw [hfσ503 141 3 (by omega), hfσ493 141 3 (by omega)]
              refine dk_cV (pc' := 86) (as := [(0, 0)]) hE lk_X11_301 (ct_X11_must l G hGd 0) dX11_readWorks_83 rfl is_141 rfl (by decide) (Nat.le_of_ble_eq_true rfl) ⟨rfl, (NX_tk (gi505).1), (by omega)⟩ rfl (fun r523 σ522 hr523 hor523 => ?_)
              obtain ⟨rfl, hfσ522, hpr523⟩ := hr523
              have gi524 : RX r σ493 σ522 := RX_tr gi505 hpr523 (fun k_ j_ h_ => hfσ522 k_ j_ (by omega))
              refine dk_aload_n (pc' := 87) hE dX11_readWorks_86 rfl rfl rfl ?_
              refine gf_11_11 (pc' := 90) (w := 144) hE fl_X11_20 dX11_readWorks_87 is_141 rfl rfl ?_
              refine dk_aload_n (pc' := 91) hE dX11_readWorks_90 rfl rfl rfl ?_
              refine gf_11_28 (pc' := 94) hE fl_X11_269 dX11_readWorks_91 is_141 rfl (fun v525 hv525 htv525 hbv525 => ?_)
              have hq525 : r = v525 := (show v525 = r by rw [hv525, hfσ522 141 28 (by omega), hfσ503 141 28 (by omega), hfσ493 141 28 (by omega), hr]).symm
              subst hq525
              clear htv525 hbv525
              refine dk_dup2 (pc' := 95) hE dX11_readWorks_94 (show (0 : Nat) ≠ 3 by decide) (show (4 : Nat) ≠ 3 by decide) rfl ?_
              refine ga_72 (pc' := 96) hE dX11_readWorks_95 is_144 (by omega) rfl (fun v526 hv526 htv526 hbv526 => ?_)
              refine dk_iconst (pc' := 97) hE dX11_readWorks_96 (by decide) rfl ?_
              refine dk_iaddW (pc' := 98) hE dX11_readWorks_97 rfl (fun v527 hv527 _ => ?_)
              refine pa_72 (pc' := 99) hE dX11_readWorks_98 is_144 (by omega) trivial rfl (fun σ528 eσ528 => ?_)
              have hz529 : σ528 147 r = n + 1 := by rw [eσ528, dk_up_n (show ¬ (147 = 144 ∧ r = r) by omega), hfσ522 147 r (by omega), (hpr504.2.1).symm]
              have hz530 : σ528 145 r = w + 1 := by rw [eσ528, dk_up_n (show ¬ (145 = 144 ∧ r = r) by omega), hfσ522 145 r (by omega), (hpr504.2.2).symm]
              have hz531 : σ528 146 r = q := by rw [eσ528, dk_up_n (show ¬ (146 = 144 ∧ r = r) by omega), hfσ522 146 r (by omega), hfσ503 146 r (by omega), hfσ493 146 r (by omega), hq]
              have gi532 : RX r σ493 σ528 := RX_fr gi524 (fun k_ j_ h_ => by rw [eσ528, dk_up_n (show ¬ (k_ = 144 ∧ j_ = r) by omega)])
              exact dk_vret (st := []) hE hR dX11_readWorks_99 ⟨rfl, (fun k_ j_ h_ => by rw [eσ528, dk_up_n (show ¬ (k_ = 144 ∧ j_ = r) from fun q_ => h_ (Or.inr (Or.inr (Or.inr (Or.inr (Or.inr (Or.inr (Or.inr (dk_wr (lo := 144) (hi := 159) q_.1 (by decide)))))))))), hfσ522 k_ j_ (fun w_ => h_ (w_.elim (fun x0_ => Or.inl (x0_)) (fun y0_ => y0_.elim (fun x1_ => Or.inr (Or.inl (x1_))) (fun y1_ => y1_.elim (fun x2_ => Or.inr (Or.inr (Or.inl (x2_)))) (fun y2_ => y2_.elim (fun x3_ => Or.inr (Or.inr (Or.inr (Or.inl (x3_))))) (fun y3_ => y3_.elim (fun x4_ => Or.inr (Or.inr (Or.inr (Or.inr (Or.inl (x4_)))))) (fun y4_ => y4_.elim (fun x5_ => Or.inr (Or.inr (Or.inr (Or.inr (Or.inr (Or.inl (x5_))))))) (fun y5_ => Or.inr (Or.inr (Or.inr (Or.inr (Or.inr (Or.inr (Or.inl (y5_))))))))))))))), hfσ503 k_ j_ (fun w_ => h_ (w_.elim (fun x0_ => Or.inl (x0_)) (fun y0_ => y0_.elim (fun x1_ => Or.inr (Or.inl (x1_))) (fun y1_ => y1_.elim (fun x2_ => Or.inr (Or.inr (Or.inl (x2_)))) (fun y2_ => y2_.elim (fun x3_ => Or.inr (Or.inr (Or.inr (Or.inl (x3_))))) (fun y3_ => y3_.elim (fun x4_ => Or.inr (Or.inr (Or.inr (Or.inr (Or.inl (x4_)))))) (fun y4_ => y4_.elim (fun x5_ => Or.inr (Or.inr (Or.inr (Or.inr (Or.inr (Or.inl (x5_))))))) (fun y5_ => y5_.elim (fun x6_ => Or.inr (Or.inr (Or.inr (Or.inr (Or.inr (Or.inr (Or.inl (x6_)))))))) (fun y6_ => y6_.elim (fun x7_ => Or.inr (Or.inr (Or.inr (Or.inr (Or.inr (Or.inr (Or.inr (dk_wr (lo := 144) (hi := 159) x7_ (by decide))))))))) (fun y7_ => y7_.elim (fun x8_ => Or.inr (Or.inr (Or.inr (Or.inr (Or.inr (Or.inr (Or.inr (dk_wr (lo := 144) (hi := 159) x8_ (by decide))))))))) (fun y8_ => Or.inr (Or.inr (Or.inr (Or.inr (Or.inr (Or.inr (Or.inr (dk_wr (lo := 144) (hi := 159) y8_ (by decide))))))))))))))))))), hfσ493 k_ j_ (fun w_ => h_ (w_.elim (fun x0_ => Or.inr (Or.inr (Or.inl (x0_)))) (fun y0_ => y0_.elim (fun x1_ => Or.inr (Or.inr (Or.inr (Or.inl (x1_))))) (fun y1_ => y1_.elim (fun x2_ => Or.inr (Or.inr (Or.inr (Or.inr (Or.inl (x2_)))))) (fun y2_ => y2_.elim (fun x3_ => Or.inr (Or.inr (Or.inr (Or.inr (Or.inr (Or.inl (x3_))))))) (fun y3_ => Or.inr (Or.inr (Or.inr (Or.inr (Or.inr (Or.inr (Or.inl (y3_)))))))))))))]), ⟨RX_rx hB gi532, fun a_ q_ => Or.inr (by have x_ := (gi532).1.2.2.1; have t_ := hT.2.2 q_; have y_ := H46.2.2.1; omega), by omega⟩⟩
          · skip
            refine dk_if_ne (tgt := 45) (pc' := 44) hE dX11_readWorks_41 (by decide) rfl (fun hc533 => absurd hc533 (by decide)) (fun hc533 => ?_)
            have hz534 : σ 147 r = n := by rw [hn]
            have hz535 : σ 145 r = w := by rw [hw]
            have hz536 : σ 146 r = q := by rw [hq]
            exact dk_vret (st := []) hE hR dX11_readWorks_44 ⟨rfl, (fun k_ j_ h_ => rfl), ⟨(RX_of hT hTI), fun a_ q_ => Or.inl (by omega), by omega⟩⟩
      · skip
        refine dk_istore_n (pc' := 24) (ls' := [(4, 141), (0, 0), (0, 1), (0, 0)]) hE dX11_readWorks_23 rfl rfl (by decide) rfl ?_
        refine dk_aload_n (pc' := 25) hE dX11_readWorks_24 rfl rfl rfl ?_
        refine dk_iload_n (pc' := 26) hE dX11_readWorks_25 rfl rfl rfl ?_
        refine dk_iload_n (pc' := 27) hE dX11_readWorks_26 rfl rfl rfl ?_
        have hz537 : σ 141 28 = r := by rw [hr]
        have hz538 : σ 145 r = w := by rw [hw]
        have hz539 : σ 146 r = q := by rw [hq]
        refine dk_cV (pc' := 30) (as := [(0, 0), (0, 1)]) hE lk_X11_284 (ct_X11_isFull l G hGd 0 1 r w q) dX11_readWorks_27 rfl is_141 rfl (by decide) (Nat.le_of_ble_eq_true rfl) ⟨rfl, (by omega), (by omega), (by omega), (by omega), (by omega), (by omega)⟩ rfl (fun r541 σ540 hr541 hor541 => ?_)
        obtain ⟨v542, rfl, hfσ540, hpr541⟩ := hr541
        have H27 := hpr541
        have hsσ540 : σ = σ540 := (funext (fun k => funext (fun j => hfσ540 k j not_false))).symm
        subst hsσ540
        rcases hpr541 with ⟨rfl, hpr541⟩ | ⟨rfl, hpr541⟩
        · skip
          refine dk_if_eq (tgt := 37) (pc' := 33) hE dX11_readWorks_30 (by decide) rfl (fun hc543 => absurd hc543 (by decide)) (fun hc543 => ?_)
          refine dk_aload_n (pc' := 34) hE dX11_readWorks_33 rfl rfl rfl ?_
          refine dk_cV (pc' := 37) (as := []) hE lk_X11_257 (ct_X11_wrong l G hGd) dX11_readWorks_34 rfl is_141 rfl (by decide) (Nat.le_of_ble_eq_true rfl) rfl rfl (fun r545 σ544 hr545 hor545 => ?_)
          obtain ⟨rfl, hfσ544, hpr545⟩ := hr545
          have gi546 : RX r σ σ544 := RX_f (RX_of hT hTI) hfσ544 hpr545
          refine dk_aload_n (pc' := 38) hE dX11_readWorks_37 rfl rfl rfl ?_
          refine dk_cV (pc' := 41) (as := []) hE lk_X11_250 (ct_X11_isGood l G hGd) dX11_readWorks_38 rfl is_141 rfl (by decide) (Nat.le_of_ble_eq_true rfl) rfl rfl (fun r548 σ547 hr548 hor548 => ?_)
          obtain ⟨v549, rfl, hfσ547, hpr548⟩ := hr548
          have hsσ547 : σ544 = σ547 := (funext (fun k => funext (fun j => hfσ547 k j not_false))).symm
          subst hsσ547
          rcases hpr548 with ⟨rfl, hpr548⟩ | ⟨rfl, hpr548⟩
          · skip
            refine dk_if_ne (tgt := 45) (pc' := 44) hE dX11_readWorks_41 (by decide) rfl (fun hc550 => ?_) (fun hc550 => absurd hc550 (by decide))
            refine dk_aload_n (pc' := 46) hE dX11_readWorks_45 rfl rfl rfl ?_
            have hz551 : σ544 141 7 = σ 141 7 := by rw [hfσ544 141 7 (by omega)]
            have hz552 : σ544 141 3 = σ 141 3 := by rw [hfσ544 141 3 (by omega)]
            have hz553 : σ544 141 3 = σ 141 3 := by rw [hfσ544 141 3 (by omega)]
            refine dk_cV (pc' := 49) (as := []) hE lk_X11_254 (ct_X11_next l G hGd) dX11_readWorks_46 rfl is_141 rfl (by decide) (Nat.le_of_ble_eq_true rfl) ⟨rfl, ((NX_tk (gi546).1).2.1), (by omega)⟩ rfl (fun r555 σ554 hr555 hor555 => ?_)
            obtain ⟨rfl, hfσ554, hpr555⟩ := hr555
            have H46 := hpr555
            have gi556 : RX r σ σ554 := RX_y gi546 hpr555 (fun k_ j_ h_ => hfσ554 k_ j_ (by omega))
            have hB : RX r σ σ554 := gi556
            have gi557 : RX r σ554 σ554 := RX_of (NX_tk hB.1) hB.2
            refine dk_iload_n (pc' := 50) hE dX11_readWorks_49 rfl rfl rfl ?_
            refine dk_if_eq (tgt := 60) (pc' := 53) hE dX11_readWorks_50 (by decide) rfl (fun hc558 => ?_) (fun hc558 => absurd hc558 (by decide))
            refine dk_iload_n (pc' := 61) hE dX11_readWorks_60 rfl rfl rfl ?_
            refine dk_if_eq (tgt := 71) (pc' := 64) hE dX11_readWorks_61 (by decide) rfl (fun hc559 => absurd hc559 (by decide)) (fun hc559 => ?_)
            refine dk_aload_n (pc' := 65) hE dX11_readWorks_64 rfl rfl rfl ?_
            have hz560 : σ554 141 3 = σ 141 3 := by rw [hfσ554 141 3 (by omega), hfσ544 141 3 (by omega)]
            have hz561 : σ554 141 28 = r := by rw [hfσ554 141 28 (by omega), hfσ544 141 28 (by omega), hr]
            have hz562 : σ554 147 r = n := by rw [hfσ554 147 r (by omega), hfσ544 147 r (by omega), hn]
            have hz563 : σ554 145 r = w := by rw [hfσ554 145 r (by omega), hfσ544 145 r (by omega), hw]
            refine dk_cV (pc' := 68) (as := []) hE lk_X11_291 (ct_X11_readWork l G hGd r n w) dX11_readWorks_65 rfl is_141 rfl (by decide) (Nat.le_of_ble_eq_true rfl) ⟨rfl, (NX_tk (gi557).1), (by omega), (by omega), (by omega), (by omega), (by omega), (by omega), (by omega)⟩ rfl (fun r565 σ564 hr565 hor565 => ?_)
            obtain ⟨rfl, hfσ564, hpr565⟩ := hr565
            have gi566 : RX r σ554 σ564 := RX_tr gi557 hpr565.1 (fun k_ j_ h_ => hfσ564 k_ j_ (by omega))
            refine dk_goto (tgt := 76) hE dX11_readWorks_68 (by decide) ?_
            refine dk_aload_n (pc' := 77) hE dX11_readWorks_76 rfl rfl rfl ?_
            refine dk_aload_n (pc' := 78) hE dX11_readWorks_77 rfl rfl rfl ?_
            refine dk_bipush (pc' := 80) hE dX11_readWorks_78 (by decide) rfl ?_
            refine dk_cV (pc' := 83) (as := [(0, 59)]) hE lk_X11_298 (ct_X11_is l G hGd 59) dX11_readWorks_80 rfl is_141 rfl (by decide) (Nat.le_of_ble_eq_true rfl) rfl rfl (fun r568 σ567 hr568 hor568 => ?_)
            obtain ⟨v569, rfl, hfσ567, hpr568⟩ := hr568
            have hsσ567 : σ564 = σ567 := (funext (fun k => funext (fun j => hfσ567 k j not_false))).symm
            subst hsσ567
            rcases hpr568 with ⟨rfl, hpr568⟩ | rfl
            · skip
              have hz570 : σ564 141 3 = σ 141 3 := by rw [hfσ564 141 3 (by omega), hfσ554 141 3 (by omega), hfσ544 141 3 (by omega)]
              refine dk_cV (pc' := 86) (as := [(0, 1)]) hE lk_X11_301 (ct_X11_must l G hGd 1) dX11_readWorks_83 rfl is_141 rfl (by decide) (Nat.le_of_ble_eq_true rfl) ⟨rfl, (NX_tk (gi566).1), (by omega)⟩ rfl (fun r572 σ571 hr572 hor572 => ?_)
              obtain ⟨rfl, hfσ571, hpr572⟩ := hr572
              have gi573 : RX r σ554 σ571 := RX_tr gi566 hpr572 (fun k_ j_ h_ => hfσ571 k_ j_ (by omega))
              refine dk_aload_n (pc' := 87) hE dX11_readWorks_86 rfl rfl rfl ?_
              refine gf_11_11 (pc' := 90) (w := 144) hE fl_X11_20 dX11_readWorks_87 is_141 rfl rfl ?_
              refine dk_aload_n (pc' := 91) hE dX11_readWorks_90 rfl rfl rfl ?_
              refine gf_11_28 (pc' := 94) hE fl_X11_269 dX11_readWorks_91 is_141 rfl (fun v574 hv574 htv574 hbv574 => ?_)
              have hq574 : r = v574 := (show v574 = r by rw [hv574, hfσ571 141 28 (by omega), hfσ564 141 28 (by omega), hfσ554 141 28 (by omega), hfσ544 141 28 (by omega), hr]).symm
              subst hq574
              clear htv574 hbv574
              refine dk_dup2 (pc' := 95) hE dX11_readWorks_94 (show (0 : Nat) ≠ 3 by decide) (show (4 : Nat) ≠ 3 by decide) rfl ?_
              refine ga_72 (pc' := 96) hE dX11_readWorks_95 is_144 (by omega) rfl (fun v575 hv575 htv575 hbv575 => ?_)
              refine dk_iconst (pc' := 97) hE dX11_readWorks_96 (by decide) rfl ?_
              refine dk_iaddW (pc' := 98) hE dX11_readWorks_97 rfl (fun v576 hv576 _ => ?_)
              refine pa_72 (pc' := 99) hE dX11_readWorks_98 is_144 (by omega) trivial rfl (fun σ577 eσ577 => ?_)
              have hz578 : σ577 147 r = n + 1 := by rw [eσ577, dk_up_n (show ¬ (147 = 144 ∧ r = r) by omega), hfσ571 147 r (by omega), (hpr565.2.1).symm]
              have hz579 : σ577 145 r = w + 1 := by rw [eσ577, dk_up_n (show ¬ (145 = 144 ∧ r = r) by omega), hfσ571 145 r (by omega), (hpr565.2.2).symm]
              have hz580 : σ577 146 r = q := by rw [eσ577, dk_up_n (show ¬ (146 = 144 ∧ r = r) by omega), hfσ571 146 r (by omega), hfσ564 146 r (by omega), hfσ554 146 r (by omega), hfσ544 146 r (by omega), hq]
              have gi581 : RX r σ554 σ577 := RX_fr gi573 (fun k_ j_ h_ => by rw [eσ577, dk_up_n (show ¬ (k_ = 144 ∧ j_ = r) by omega)])
              exact dk_vret (st := []) hE hR dX11_readWorks_99 ⟨rfl, (fun k_ j_ h_ => by rw [eσ577, dk_up_n (show ¬ (k_ = 144 ∧ j_ = r) from fun q_ => h_ (Or.inr (Or.inr (Or.inr (Or.inr (Or.inr (Or.inr (Or.inr (dk_wr (lo := 144) (hi := 159) q_.1 (by decide)))))))))), hfσ571 k_ j_ (fun w_ => h_ (w_.elim (fun x0_ => Or.inl (x0_)) (fun y0_ => y0_.elim (fun x1_ => Or.inr (Or.inl (x1_))) (fun y1_ => y1_.elim (fun x2_ => Or.inr (Or.inr (Or.inl (x2_)))) (fun y2_ => y2_.elim (fun x3_ => Or.inr (Or.inr (Or.inr (Or.inl (x3_))))) (fun y3_ => y3_.elim (fun x4_ => Or.inr (Or.inr (Or.inr (Or.inr (Or.inl (x4_)))))) (fun y4_ => y4_.elim (fun x5_ => Or.inr (Or.inr (Or.inr (Or.inr (Or.inr (Or.inl (x5_))))))) (fun y5_ => Or.inr (Or.inr (Or.inr (Or.inr (Or.inr (Or.inr (Or.inl (y5_))))))))))))))), hfσ564 k_ j_ (fun w_ => h_ (w_.elim (fun x0_ => Or.inl (x0_)) (fun y0_ => y0_.elim (fun x1_ => Or.inr (Or.inl (x1_))) (fun y1_ => y1_.elim (fun x2_ => Or.inr (Or.inr (Or.inl (x2_)))) (fun y2_ => y2_.elim (fun x3_ => Or.inr (Or.inr (Or.inr (Or.inl (x3_))))) (fun y3_ => y3_.elim (fun x4_ => Or.inr (Or.inr (Or.inr (Or.inr (Or.inl (x4_)))))) (fun y4_ => y4_.elim (fun x5_ => Or.inr (Or.inr (Or.inr (Or.inr (Or.inr (Or.inl (x5_))))))) (fun y5_ => y5_.elim (fun x6_ => Or.inr (Or.inr (Or.inr (Or.inr (Or.inr (Or.inr (Or.inl (x6_)))))))) (fun y6_ => y6_.elim (fun x7_ => Or.inr (Or.inr (Or.inr (Or.inr (Or.inr (Or.inr (Or.inr (dk_wr (lo := 144) (hi := 159) x7_ (by decide))))))))) (fun y7_ => y7_.elim (fun x8_ => Or.inr (Or.inr (Or.inr (Or.inr (Or.inr (Or.inr (Or.inr (dk_wr (lo := 144) (hi := 159) x8_ (by decide))))))))) (fun y8_ => Or.inr (Or.inr (Or.inr (Or.inr (Or.inr (Or.inr (Or.inr (dk_wr (lo := 144) (hi := 159) y8_ (by decide))))))))))))))))))), hfσ554 k_ j_ (fun w_ => h_ (w_.elim (fun x0_ => Or.inr (Or.inr (Or.inl (x0_)))) (fun y0_ => y0_.elim (fun x1_ => Or.inr (Or.inr (Or.inr (Or.inl (x1_))))) (fun y1_ => y1_.elim (fun x2_ => Or.inr (Or.inr (Or.inr (Or.inr (Or.inl (x2_)))))) (fun y2_ => y2_.elim (fun x3_ => Or.inr (Or.inr (Or.inr (Or.inr (Or.inr (Or.inl (x3_))))))) (fun y3_ => Or.inr (Or.inr (Or.inr (Or.inr (Or.inr (Or.inr (Or.inl (y3_))))))))))))), hfσ544 k_ j_ (fun w_ => h_ (w_.elim (fun x0_ => Or.inl (x0_)) (fun y0_ => Or.inr (Or.inl (y0_)))))]), ⟨RX_rx hB gi581, fun a_ q_ => Or.inr (by have x_ := (gi581).1.2.2.1; have t_ := hT.2.2 q_; have y_ := H46.2.2.1; omega), by omega⟩⟩
            · skip
              have hz582 : σ564 141 3 = σ 141 3 := by rw [hfσ564 141 3 (by omega), hfσ554 141 3 (by omega), hfσ544 141 3 (by omega)]
              refine dk_cV (pc' := 86) (as := [(0, 0)]) hE lk_X11_301 (ct_X11_must l G hGd 0) dX11_readWorks_83 rfl is_141 rfl (by decide) (Nat.le_of_ble_eq_true rfl) ⟨rfl, (NX_tk (gi566).1), (by omega)⟩ rfl (fun r584 σ583 hr584 hor584 => ?_)
              obtain ⟨rfl, hfσ583, hpr584⟩ := hr584
              have gi585 : RX r σ554 σ583 := RX_tr gi566 hpr584 (fun k_ j_ h_ => hfσ583 k_ j_ (by omega))
              refine dk_aload_n (pc' := 87) hE dX11_readWorks_86 rfl rfl rfl ?_
              refine gf_11_11 (pc' := 90) (w := 144) hE fl_X11_20 dX11_readWorks_87 is_141 rfl rfl ?_
              refine dk_aload_n (pc' := 91) hE dX11_readWorks_90 rfl rfl rfl ?_
              refine gf_11_28 (pc' := 94) hE fl_X11_269 dX11_readWorks_91 is_141 rfl (fun v586 hv586 htv586 hbv586 => ?_)
              have hq586 : r = v586 := (show v586 = r by rw [hv586, hfσ583 141 28 (by omega), hfσ564 141 28 (by omega), hfσ554 141 28 (by omega), hfσ544 141 28 (by omega), hr]).symm
              subst hq586
              clear htv586 hbv586
              refine dk_dup2 (pc' := 95) hE dX11_readWorks_94 (show (0 : Nat) ≠ 3 by decide) (show (4 : Nat) ≠ 3 by decide) rfl ?_
              refine ga_72 (pc' := 96) hE dX11_readWorks_95 is_144 (by omega) rfl (fun v587 hv587 htv587 hbv587 => ?_)
              refine dk_iconst (pc' := 97) hE dX11_readWorks_96 (by decide) rfl ?_
              refine dk_iaddW (pc' := 98) hE dX11_readWorks_97 rfl (fun v588 hv588 _ => ?_)
              refine pa_72 (pc' := 99) hE dX11_readWorks_98 is_144 (by omega) trivial rfl (fun σ589 eσ589 => ?_)
              have hz590 : σ589 147 r = n + 1 := by rw [eσ589, dk_up_n (show ¬ (147 = 144 ∧ r = r) by omega), hfσ583 147 r (by omega), (hpr565.2.1).symm]
              have hz591 : σ589 145 r = w + 1 := by rw [eσ589, dk_up_n (show ¬ (145 = 144 ∧ r = r) by omega), hfσ583 145 r (by omega), (hpr565.2.2).symm]
              have hz592 : σ589 146 r = q := by rw [eσ589, dk_up_n (show ¬ (146 = 144 ∧ r = r) by omega), hfσ583 146 r (by omega), hfσ564 146 r (by omega), hfσ554 146 r (by omega), hfσ544 146 r (by omega), hq]
              have gi593 : RX r σ554 σ589 := RX_fr gi585 (fun k_ j_ h_ => by rw [eσ589, dk_up_n (show ¬ (k_ = 144 ∧ j_ = r) by omega)])
              exact dk_vret (st := []) hE hR dX11_readWorks_99 ⟨rfl, (fun k_ j_ h_ => by rw [eσ589, dk_up_n (show ¬ (k_ = 144 ∧ j_ = r) from fun q_ => h_ (Or.inr (Or.inr (Or.inr (Or.inr (Or.inr (Or.inr (Or.inr (dk_wr (lo := 144) (hi := 159) q_.1 (by decide)))))))))), hfσ583 k_ j_ (fun w_ => h_ (w_.elim (fun x0_ => Or.inl (x0_)) (fun y0_ => y0_.elim (fun x1_ => Or.inr (Or.inl (x1_))) (fun y1_ => y1_.elim (fun x2_ => Or.inr (Or.inr (Or.inl (x2_)))) (fun y2_ => y2_.elim (fun x3_ => Or.inr (Or.inr (Or.inr (Or.inl (x3_))))) (fun y3_ => y3_.elim (fun x4_ => Or.inr (Or.inr (Or.inr (Or.inr (Or.inl (x4_)))))) (fun y4_ => y4_.elim (fun x5_ => Or.inr (Or.inr (Or.inr (Or.inr (Or.inr (Or.inl (x5_))))))) (fun y5_ => Or.inr (Or.inr (Or.inr (Or.inr (Or.inr (Or.inr (Or.inl (y5_))))))))))))))), hfσ564 k_ j_ (fun w_ => h_ (w_.elim (fun x0_ => Or.inl (x0_)) (fun y0_ => y0_.elim (fun x1_ => Or.inr (Or.inl (x1_))) (fun y1_ => y1_.elim (fun x2_ => Or.inr (Or.inr (Or.inl (x2_)))) (fun y2_ => y2_.elim (fun x3_ => Or.inr (Or.inr (Or.inr (Or.inl (x3_))))) (fun y3_ => y3_.elim (fun x4_ => Or.inr (Or.inr (Or.inr (Or.inr (Or.inl (x4_)))))) (fun y4_ => y4_.elim (fun x5_ => Or.inr (Or.inr (Or.inr (Or.inr (Or.inr (Or.inl (x5_))))))) (fun y5_ => y5_.elim (fun x6_ => Or.inr (Or.inr (Or.inr (Or.inr (Or.inr (Or.inr (Or.inl (x6_)))))))) (fun y6_ => y6_.elim (fun x7_ => Or.inr (Or.inr (Or.inr (Or.inr (Or.inr (Or.inr (Or.inr (dk_wr (lo := 144) (hi := 159) x7_ (by decide))))))))) (fun y7_ => y7_.elim (fun x8_ => Or.inr (Or.inr (Or.inr (Or.inr (Or.inr (Or.inr (Or.inr (dk_wr (lo := 144) (hi := 159) x8_ (by decide))))))))) (fun y8_ => Or.inr (Or.inr (Or.inr (Or.inr (Or.inr (Or.inr (Or.inr (dk_wr (lo := 144) (hi := 159) y8_ (by decide))))))))))))))))))), hfσ554 k_ j_ (fun w_ => h_ (w_.elim (fun x0_ => Or.inr (Or.inr (Or.inl (x0_)))) (fun y0_ => y0_.elim (fun x1_ => Or.inr (Or.inr (Or.inr (Or.inl (x1_))))) (fun y1_ => y1_.elim (fun x2_ => Or.inr (Or.inr (Or.inr (Or.inr (Or.inl (x2_)))))) (fun y2_ => y2_.elim (fun x3_ => Or.inr (Or.inr (Or.inr (Or.inr (Or.inr (Or.inl (x3_))))))) (fun y3_ => Or.inr (Or.inr (Or.inr (Or.inr (Or.inr (Or.inr (Or.inl (y3_))))))))))))), hfσ544 k_ j_ (fun w_ => h_ (w_.elim (fun x0_ => Or.inl (x0_)) (fun y0_ => Or.inr (Or.inl (y0_)))))]), ⟨RX_rx hB gi593, fun a_ q_ => Or.inr (by have x_ := (gi593).1.2.2.1; have t_ := hT.2.2 q_; have y_ := H46.2.2.1; omega), by omega⟩⟩
          · skip
            refine dk_if_ne (tgt := 45) (pc' := 44) hE dX11_readWorks_41 (by decide) rfl (fun hc594 => absurd hc594 (by decide)) (fun hc594 => ?_)
            have hz595 : σ544 147 r = n := by rw [hfσ544 147 r (by omega), hn]
            have hz596 : σ544 145 r = w := by rw [hfσ544 145 r (by omega), hw]
            have hz597 : σ544 146 r = q := by rw [hfσ544 146 r (by omega), hq]
            exact dk_vret (st := []) hE hR dX11_readWorks_44 ⟨rfl, (fun k_ j_ h_ => by rw [hfσ544 k_ j_ (fun w_ => h_ (w_.elim (fun x0_ => Or.inl (x0_)) (fun y0_ => Or.inr (Or.inl (y0_)))))]), ⟨gi546, fun a_ q_ => Or.inl (by omega), by omega⟩⟩
        · skip
          refine dk_if_eq (tgt := 37) (pc' := 33) hE dX11_readWorks_30 (by decide) rfl (fun hc598 => ?_) (fun hc598 => absurd hc598 (by decide))
          refine dk_aload_n (pc' := 38) hE dX11_readWorks_37 rfl rfl rfl ?_
          refine dk_cV (pc' := 41) (as := []) hE lk_X11_250 (ct_X11_isGood l G hGd) dX11_readWorks_38 rfl is_141 rfl (by decide) (Nat.le_of_ble_eq_true rfl) rfl rfl (fun r600 σ599 hr600 hor600 => ?_)
          obtain ⟨v601, rfl, hfσ599, hpr600⟩ := hr600
          have hsσ599 : σ = σ599 := (funext (fun k => funext (fun j => hfσ599 k j not_false))).symm
          subst hsσ599
          rcases hpr600 with ⟨rfl, hpr600⟩ | ⟨rfl, hpr600⟩
          · skip
            refine dk_if_ne (tgt := 45) (pc' := 44) hE dX11_readWorks_41 (by decide) rfl (fun hc602 => ?_) (fun hc602 => absurd hc602 (by decide))
            refine dk_aload_n (pc' := 46) hE dX11_readWorks_45 rfl rfl rfl ?_
            refine dk_cV (pc' := 49) (as := []) hE lk_X11_254 (ct_X11_next l G hGd) dX11_readWorks_46 rfl is_141 rfl (by decide) (Nat.le_of_ble_eq_true rfl) ⟨rfl, ((NX_tk ((RX_of hT hTI)).1).2.1), (by omega)⟩ rfl (fun r604 σ603 hr604 hor604 => ?_)
            obtain ⟨rfl, hfσ603, hpr604⟩ := hr604
            have H46 := hpr604
            have gi605 : RX r σ σ603 := RX_y (RX_of hT hTI) hpr604 (fun k_ j_ h_ => hfσ603 k_ j_ (by omega))
            have hB : RX r σ σ603 := gi605
            have gi606 : RX r σ603 σ603 := RX_of (NX_tk hB.1) hB.2
            refine dk_iload_n (pc' := 50) hE dX11_readWorks_49 rfl rfl rfl ?_
            refine dk_if_eq (tgt := 60) (pc' := 53) hE dX11_readWorks_50 (by decide) rfl (fun hc607 => ?_) (fun hc607 => absurd hc607 (by decide))
            refine dk_iload_n (pc' := 61) hE dX11_readWorks_60 rfl rfl rfl ?_
            refine dk_if_eq (tgt := 71) (pc' := 64) hE dX11_readWorks_61 (by decide) rfl (fun hc608 => absurd hc608 (by decide)) (fun hc608 => ?_)
            refine dk_aload_n (pc' := 65) hE dX11_readWorks_64 rfl rfl rfl ?_
            have hz609 : σ603 141 3 = σ 141 3 := by rw [hfσ603 141 3 (by omega)]
            have hz610 : σ603 141 28 = r := by rw [hfσ603 141 28 (by omega), hr]
            have hz611 : σ603 147 r = n := by rw [hfσ603 147 r (by omega), hn]
            have hz612 : σ603 145 r = w := by rw [hfσ603 145 r (by omega), hw]
            refine dk_cV (pc' := 68) (as := []) hE lk_X11_291 (ct_X11_readWork l G hGd r n w) dX11_readWorks_65 rfl is_141 rfl (by decide) (Nat.le_of_ble_eq_true rfl) ⟨rfl, (NX_tk (gi606).1), (by omega), (by omega), (by omega), (by omega), (by omega), (by omega), (by omega)⟩ rfl (fun r614 σ613 hr614 hor614 => ?_)
            obtain ⟨rfl, hfσ613, hpr614⟩ := hr614
            have gi615 : RX r σ603 σ613 := RX_tr gi606 hpr614.1 (fun k_ j_ h_ => hfσ613 k_ j_ (by omega))
            refine dk_goto (tgt := 76) hE dX11_readWorks_68 (by decide) ?_
            refine dk_aload_n (pc' := 77) hE dX11_readWorks_76 rfl rfl rfl ?_
            refine dk_aload_n (pc' := 78) hE dX11_readWorks_77 rfl rfl rfl ?_
            refine dk_bipush (pc' := 80) hE dX11_readWorks_78 (by decide) rfl ?_
            refine dk_cV (pc' := 83) (as := [(0, 59)]) hE lk_X11_298 (ct_X11_is l G hGd 59) dX11_readWorks_80 rfl is_141 rfl (by decide) (Nat.le_of_ble_eq_true rfl) rfl rfl (fun r617 σ616 hr617 hor617 => ?_)
            obtain ⟨v618, rfl, hfσ616, hpr617⟩ := hr617
            have hsσ616 : σ613 = σ616 := (funext (fun k => funext (fun j => hfσ616 k j not_false))).symm
            subst hsσ616
            rcases hpr617 with ⟨rfl, hpr617⟩ | rfl
            · skip
              have hz619 : σ613 141 3 = σ 141 3 := by rw [hfσ613 141 3 (by omega), hfσ603 141 3 (by omega)]
              refine dk_cV (pc' := 86) (as := [(0, 1)]) hE lk_X11_301 (ct_X11_must l G hGd 1) dX11_readWorks_83 rfl is_141 rfl (by decide) (Nat.le_of_ble_eq_true rfl) ⟨rfl, (NX_tk (gi615).1), (by omega)⟩ rfl (fun r621 σ620 hr621 hor621 => ?_)
              obtain ⟨rfl, hfσ620, hpr621⟩ := hr621
              have gi622 : RX r σ603 σ620 := RX_tr gi615 hpr621 (fun k_ j_ h_ => hfσ620 k_ j_ (by omega))
              refine dk_aload_n (pc' := 87) hE dX11_readWorks_86 rfl rfl rfl ?_
              refine gf_11_11 (pc' := 90) (w := 144) hE fl_X11_20 dX11_readWorks_87 is_141 rfl rfl ?_
              refine dk_aload_n (pc' := 91) hE dX11_readWorks_90 rfl rfl rfl ?_
              refine gf_11_28 (pc' := 94) hE fl_X11_269 dX11_readWorks_91 is_141 rfl (fun v623 hv623 htv623 hbv623 => ?_)
              have hq623 : r = v623 := (show v623 = r by rw [hv623, hfσ620 141 28 (by omega), hfσ613 141 28 (by omega), hfσ603 141 28 (by omega), hr]).symm
              subst hq623
              clear htv623 hbv623
              refine dk_dup2 (pc' := 95) hE dX11_readWorks_94 (show (0 : Nat) ≠ 3 by decide) (show (4 : Nat) ≠ 3 by decide) rfl ?_
              refine ga_72 (pc' := 96) hE dX11_readWorks_95 is_144 (by omega) rfl (fun v624 hv624 htv624 hbv624 => ?_)
              refine dk_iconst (pc' := 97) hE dX11_readWorks_96 (by decide) rfl ?_
              refine dk_iaddW (pc' := 98) hE dX11_readWorks_97 rfl (fun v625 hv625 _ => ?_)
              refine pa_72 (pc' := 99) hE dX11_readWorks_98 is_144 (by omega) trivial rfl (fun σ626 eσ626 => ?_)
              have hz627 : σ626 147 r = n + 1 := by rw [eσ626, dk_up_n (show ¬ (147 = 144 ∧ r = r) by omega), hfσ620 147 r (by omega), (hpr614.2.1).symm]
              have hz628 : σ626 145 r = w + 1 := by rw [eσ626, dk_up_n (show ¬ (145 = 144 ∧ r = r) by omega), hfσ620 145 r (by omega), (hpr614.2.2).symm]
              have hz629 : σ626 146 r = q := by rw [eσ626, dk_up_n (show ¬ (146 = 144 ∧ r = r) by omega), hfσ620 146 r (by omega), hfσ613 146 r (by omega), hfσ603 146 r (by omega), hq]
              have gi630 : RX r σ603 σ626 := RX_fr gi622 (fun k_ j_ h_ => by rw [eσ626, dk_up_n (show ¬ (k_ = 144 ∧ j_ = r) by omega)])
              exact dk_vret (st := []) hE hR dX11_readWorks_99 ⟨rfl, (fun k_ j_ h_ => by rw [eσ626, dk_up_n (show ¬ (k_ = 144 ∧ j_ = r) from fun q_ => h_ (Or.inr (Or.inr (Or.inr (Or.inr (Or.inr (Or.inr (Or.inr (dk_wr (lo := 144) (hi := 159) q_.1 (by decide)))))))))), hfσ620 k_ j_ (fun w_ => h_ (w_.elim (fun x0_ => Or.inl (x0_)) (fun y0_ => y0_.elim (fun x1_ => Or.inr (Or.inl (x1_))) (fun y1_ => y1_.elim (fun x2_ => Or.inr (Or.inr (Or.inl (x2_)))) (fun y2_ => y2_.elim (fun x3_ => Or.inr (Or.inr (Or.inr (Or.inl (x3_))))) (fun y3_ => y3_.elim (fun x4_ => Or.inr (Or.inr (Or.inr (Or.inr (Or.inl (x4_)))))) (fun y4_ => y4_.elim (fun x5_ => Or.inr (Or.inr (Or.inr (Or.inr (Or.inr (Or.inl (x5_))))))) (fun y5_ => Or.inr (Or.inr (Or.inr (Or.inr (Or.inr (Or.inr (Or.inl (y5_))))))))))))))), hfσ613 k_ j_ (fun w_ => h_ (w_.elim (fun x0_ => Or.inl (x0_)) (fun y0_ => y0_.elim (fun x1_ => Or.inr (Or.inl (x1_))) (fun y1_ => y1_.elim (fun x2_ => Or.inr (Or.inr (Or.inl (x2_)))) (fun y2_ => y2_.elim (fun x3_ => Or.inr (Or.inr (Or.inr (Or.inl (x3_))))) (fun y3_ => y3_.elim (fun x4_ => Or.inr (Or.inr (Or.inr (Or.inr (Or.inl (x4_)))))) (fun y4_ => y4_.elim (fun x5_ => Or.inr (Or.inr (Or.inr (Or.inr (Or.inr (Or.inl (x5_))))))) (fun y5_ => y5_.elim (fun x6_ => Or.inr (Or.inr (Or.inr (Or.inr (Or.inr (Or.inr (Or.inl (x6_)))))))) (fun y6_ => y6_.elim (fun x7_ => Or.inr (Or.inr (Or.inr (Or.inr (Or.inr (Or.inr (Or.inr (dk_wr (lo := 144) (hi := 159) x7_ (by decide))))))))) (fun y7_ => y7_.elim (fun x8_ => Or.inr (Or.inr (Or.inr (Or.inr (Or.inr (Or.inr (Or.inr (dk_wr (lo := 144) (hi := 159) x8_ (by decide))))))))) (fun y8_ => Or.inr (Or.inr (Or.inr (Or.inr (Or.inr (Or.inr (Or.inr (dk_wr (lo := 144) (hi := 159) y8_ (by decide))))))))))))))))))), hfσ603 k_ j_ (fun w_ => h_ (w_.elim (fun x0_ => Or.inr (Or.inr (Or.inl (x0_)))) (fun y0_ => y0_.elim (fun x1_ => Or.inr (Or.inr (Or.inr (Or.inl (x1_))))) (fun y1_ => y1_.elim (fun x2_ => Or.inr (Or.inr (Or.inr (Or.inr (Or.inl (x2_)))))) (fun y2_ => y2_.elim (fun x3_ => Or.inr (Or.inr (Or.inr (Or.inr (Or.inr (Or.inl (x3_))))))) (fun y3_ => Or.inr (Or.inr (Or.inr (Or.inr (Or.inr (Or.inr (Or.inl (y3_)))))))))))))]), ⟨RX_rx hB gi630, fun a_ q_ => Or.inr (by have x_ := (gi630).1.2.2.1; have t_ := hT.2.2 q_; have y_ := H46.2.2.1; omega), by omega⟩⟩
            · skip
              have hz631 : σ613 141 3 = σ 141 3 := by rw [hfσ613 141 3 (by omega), hfσ603 141 3 (by omega)]
              refine dk_cV (pc' := 86) (as := [(0, 0)]) hE lk_X11_301 (ct_X11_must l G hGd 0) dX11_readWorks_83 rfl is_141 rfl (by decide) (Nat.le_of_ble_eq_true rfl) ⟨rfl, (NX_tk (gi615).1), (by omega)⟩ rfl (fun r633 σ632 hr633 hor633 => ?_)
              obtain ⟨rfl, hfσ632, hpr633⟩ := hr633
              have gi634 : RX r σ603 σ632 := RX_tr gi615 hpr633 (fun k_ j_ h_ => hfσ632 k_ j_ (by omega))
              refine dk_aload_n (pc' := 87) hE dX11_readWorks_86 rfl rfl rfl ?_
              refine gf_11_11 (pc' := 90) (w := 144) hE fl_X11_20 dX11_readWorks_87 is_141 rfl rfl ?_
              refine dk_aload_n (pc' := 91) hE dX11_readWorks_90 rfl rfl rfl ?_
              refine gf_11_28 (pc' := 94) hE fl_X11_269 dX11_readWorks_91 is_141 rfl (fun v635 hv635 htv635 hbv635 => ?_)
              have hq635 : r = v635 := (show v635 = r by rw [hv635, hfσ632 141 28 (by omega), hfσ613 141 28 (by omega), hfσ603 141 28 (by omega), hr]).symm
              subst hq635
              clear htv635 hbv635
              refine dk_dup2 (pc' := 95) hE dX11_readWorks_94 (show (0 : Nat) ≠ 3 by decide) (show (4 : Nat) ≠ 3 by decide) rfl ?_
              refine ga_72 (pc' := 96) hE dX11_readWorks_95 is_144 (by omega) rfl (fun v636 hv636 htv636 hbv636 => ?_)
              refine dk_iconst (pc' := 97) hE dX11_readWorks_96 (by decide) rfl ?_
              refine dk_iaddW (pc' := 98) hE dX11_readWorks_97 rfl (fun v637 hv637 _ => ?_)
              refine pa_72 (pc' := 99) hE dX11_readWorks_98 is_144 (by omega) trivial rfl (fun σ638 eσ638 => ?_)
              have hz639 : σ638 147 r = n + 1 := by rw [eσ638, dk_up_n (show ¬ (147 = 144 ∧ r = r) by omega), hfσ632 147 r (by omega), (hpr614.2.1).symm]
              have hz640 : σ638 145 r = w + 1 := by rw [eσ638, dk_up_n (show ¬ (145 = 144 ∧ r = r) by omega), hfσ632 145 r (by omega), (hpr614.2.2).symm]
              have hz641 : σ638 146 r = q := by rw [eσ638, dk_up_n (show ¬ (146 = 144 ∧ r = r) by omega), hfσ632 146 r (by omega), hfσ613 146 r (by omega), hfσ603 146 r (by omega), hq]
              have gi642 : RX r σ603 σ638 := RX_fr gi634 (fun k_ j_ h_ => by rw [eσ638, dk_up_n (show ¬ (k_ = 144 ∧ j_ = r) by omega)])
              exact dk_vret (st := []) hE hR dX11_readWorks_99 ⟨rfl, (fun k_ j_ h_ => by rw [eσ638, dk_up_n (show ¬ (k_ = 144 ∧ j_ = r) from fun q_ => h_ (Or.inr (Or.inr (Or.inr (Or.inr (Or.inr (Or.inr (Or.inr (dk_wr (lo := 144) (hi := 159) q_.1 (by decide)))))))))), hfσ632 k_ j_ (fun w_ => h_ (w_.elim (fun x0_ => Or.inl (x0_)) (fun y0_ => y0_.elim (fun x1_ => Or.inr (Or.inl (x1_))) (fun y1_ => y1_.elim (fun x2_ => Or.inr (Or.inr (Or.inl (x2_)))) (fun y2_ => y2_.elim (fun x3_ => Or.inr (Or.inr (Or.inr (Or.inl (x3_))))) (fun y3_ => y3_.elim (fun x4_ => Or.inr (Or.inr (Or.inr (Or.inr (Or.inl (x4_)))))) (fun y4_ => y4_.elim (fun x5_ => Or.inr (Or.inr (Or.inr (Or.inr (Or.inr (Or.inl (x5_))))))) (fun y5_ => Or.inr (Or.inr (Or.inr (Or.inr (Or.inr (Or.inr (Or.inl (y5_))))))))))))))), hfσ613 k_ j_ (fun w_ => h_ (w_.elim (fun x0_ => Or.inl (x0_)) (fun y0_ => y0_.elim (fun x1_ => Or.inr (Or.inl (x1_))) (fun y1_ => y1_.elim (fun x2_ => Or.inr (Or.inr (Or.inl (x2_)))) (fun y2_ => y2_.elim (fun x3_ => Or.inr (Or.inr (Or.inr (Or.inl (x3_))))) (fun y3_ => y3_.elim (fun x4_ => Or.inr (Or.inr (Or.inr (Or.inr (Or.inl (x4_)))))) (fun y4_ => y4_.elim (fun x5_ => Or.inr (Or.inr (Or.inr (Or.inr (Or.inr (Or.inl (x5_))))))) (fun y5_ => y5_.elim (fun x6_ => Or.inr (Or.inr (Or.inr (Or.inr (Or.inr (Or.inr (Or.inl (x6_)))))))) (fun y6_ => y6_.elim (fun x7_ => Or.inr (Or.inr (Or.inr (Or.inr (Or.inr (Or.inr (Or.inr (dk_wr (lo := 144) (hi := 159) x7_ (by decide))))))))) (fun y7_ => y7_.elim (fun x8_ => Or.inr (Or.inr (Or.inr (Or.inr (Or.inr (Or.inr (Or.inr (dk_wr (lo := 144) (hi := 159) x8_ (by decide))))))))) (fun y8_ => Or.inr (Or.inr (Or.inr (Or.inr (Or.inr (Or.inr (Or.inr (dk_wr (lo := 144) (hi := 159) y8_ (by decide))))))))))))))))))), hfσ603 k_ j_ (fun w_ => h_ (w_.elim (fun x0_ => Or.inr (Or.inr (Or.inl (x0_)))) (fun y0_ => y0_.elim (fun x1_ => Or.inr (Or.inr (Or.inr (Or.inl (x1_))))) (fun y1_ => y1_.elim (fun x2_ => Or.inr (Or.inr (Or.inr (Or.inr (Or.inl (x2_)))))) (fun y2_ => y2_.elim (fun x3_ => Or.inr (Or.inr (Or.inr (Or.inr (Or.inr (Or.inl (x3_))))))) (fun y3_ => Or.inr (Or.inr (Or.inr (Or.inr (Or.inr (Or.inr (Or.inl (y3_)))))))))))))]), ⟨RX_rx hB gi642, fun a_ q_ => Or.inr (by have x_ := (gi642).1.2.2.1; have t_ := hT.2.2 q_; have y_ := H46.2.2.1; omega), by omega⟩⟩
          · skip
            refine dk_if_ne (tgt := 45) (pc' := 44) hE dX11_readWorks_41 (by decide) rfl (fun hc643 => absurd hc643 (by decide)) (fun hc643 => ?_)
            have hz644 : σ 147 r = n := by rw [hn]
            have hz645 : σ 145 r = w := by rw [hw]
            have hz646 : σ 146 r = q := by rw [hq]
            exact dk_vret (st := []) hE hR dX11_readWorks_44 ⟨rfl, (fun k_ j_ h_ => rfl), ⟨(RX_of hT hTI), fun a_ q_ => Or.inl (by omega), by omega⟩⟩
    · skip
      refine dk_istore_n (pc' := 16) (ls' := [(4, 141), (0, 0), (0, 0), (9, 0)]) hE dX11_readWorks_15 rfl rfl (by decide) rfl ?_
      refine dk_aload_n (pc' := 17) hE dX11_readWorks_16 rfl rfl rfl ?_
      refine dk_ldc2 (pc' := 20) hE dX11_readWorks_17 cs_X11_178 (by decide) rfl ?_
      refine dk_cV (pc' := 23) (as := [(3, 1852798053)]) hE lk_X11_281 (ct_X11_isWord l G hGd 1852798053) dX11_readWorks_20 rfl is_141 rfl (by decide) (Nat.le_of_ble_eq_true rfl) rfl rfl (fun r648 σ647 hr648 hor648 => ?_)
      obtain ⟨v649, rfl, hfσ647, hpr648⟩ := hr648
      have hsσ647 : σ = σ647 := (funext (fun k => funext (fun j => hfσ647 k j not_false))).symm
      subst hsσ647
      rcases hpr648 with ⟨rfl, hpr648⟩ | rfl
      · skip
        refine dk_istore_n (pc' := 24) (ls' := [(4, 141), (0, 0), (0, 0), (0, 1)]) hE dX11_readWorks_23 rfl rfl (by decide) rfl ?_
        refine dk_aload_n (pc' := 25) hE dX11_readWorks_24 rfl rfl rfl ?_
        refine dk_iload_n (pc' := 26) hE dX11_readWorks_25 rfl rfl rfl ?_
        refine dk_iload_n (pc' := 27) hE dX11_readWorks_26 rfl rfl rfl ?_
        have hz650 : σ 141 28 = r := by rw [hr]
        have hz651 : σ 145 r = w := by rw [hw]
        have hz652 : σ 146 r = q := by rw [hq]
        refine dk_cV (pc' := 30) (as := [(0, 0), (0, 0)]) hE lk_X11_284 (ct_X11_isFull l G hGd 0 0 r w q) dX11_readWorks_27 rfl is_141 rfl (by decide) (Nat.le_of_ble_eq_true rfl) ⟨rfl, (by omega), (by omega), (by omega), (by omega), (by omega), (by omega)⟩ rfl (fun r654 σ653 hr654 hor654 => ?_)
        obtain ⟨v655, rfl, hfσ653, hpr654⟩ := hr654
        have H27 := hpr654
        have hsσ653 : σ = σ653 := (funext (fun k => funext (fun j => hfσ653 k j not_false))).symm
        subst hsσ653
        rcases hpr654 with ⟨rfl, hpr654⟩ | ⟨rfl, hpr654⟩
        · skip
          refine dk_if_eq (tgt := 37) (pc' := 33) hE dX11_readWorks_30 (by decide) rfl (fun hc656 => absurd hc656 (by decide)) (fun hc656 => ?_)
          refine dk_aload_n (pc' := 34) hE dX11_readWorks_33 rfl rfl rfl ?_
          refine dk_cV (pc' := 37) (as := []) hE lk_X11_257 (ct_X11_wrong l G hGd) dX11_readWorks_34 rfl is_141 rfl (by decide) (Nat.le_of_ble_eq_true rfl) rfl rfl (fun r658 σ657 hr658 hor658 => ?_)
          obtain ⟨rfl, hfσ657, hpr658⟩ := hr658
          have gi659 : RX r σ σ657 := RX_f (RX_of hT hTI) hfσ657 hpr658
          refine dk_aload_n (pc' := 38) hE dX11_readWorks_37 rfl rfl rfl ?_
          refine dk_cV (pc' := 41) (as := []) hE lk_X11_250 (ct_X11_isGood l G hGd) dX11_readWorks_38 rfl is_141 rfl (by decide) (Nat.le_of_ble_eq_true rfl) rfl rfl (fun r661 σ660 hr661 hor661 => ?_)
          obtain ⟨v662, rfl, hfσ660, hpr661⟩ := hr661
          have hsσ660 : σ657 = σ660 := (funext (fun k => funext (fun j => hfσ660 k j not_false))).symm
          subst hsσ660
          rcases hpr661 with ⟨rfl, hpr661⟩ | ⟨rfl, hpr661⟩
          · skip
            refine dk_if_ne (tgt := 45) (pc' := 44) hE dX11_readWorks_41 (by decide) rfl (fun hc663 => ?_) (fun hc663 => absurd hc663 (by decide))
            refine dk_aload_n (pc' := 46) hE dX11_readWorks_45 rfl rfl rfl ?_
            have hz664 : σ657 141 7 = σ 141 7 := by rw [hfσ657 141 7 (by omega)]
            have hz665 : σ657 141 3 = σ 141 3 := by rw [hfσ657 141 3 (by omega)]
            have hz666 : σ657 141 3 = σ 141 3 := by rw [hfσ657 141 3 (by omega)]
            refine dk_cV (pc' := 49) (as := []) hE lk_X11_254 (ct_X11_next l G hGd) dX11_readWorks_46 rfl is_141 rfl (by decide) (Nat.le_of_ble_eq_true rfl) ⟨rfl, ((NX_tk (gi659).1).2.1), (by omega)⟩ rfl (fun r668 σ667 hr668 hor668 => ?_)
            obtain ⟨rfl, hfσ667, hpr668⟩ := hr668
            have H46 := hpr668
            have gi669 : RX r σ σ667 := RX_y gi659 hpr668 (fun k_ j_ h_ => hfσ667 k_ j_ (by omega))
            have hB : RX r σ σ667 := gi669
            have gi670 : RX r σ667 σ667 := RX_of (NX_tk hB.1) hB.2
            refine dk_iload_n (pc' := 50) hE dX11_readWorks_49 rfl rfl rfl ?_
            refine dk_if_eq (tgt := 60) (pc' := 53) hE dX11_readWorks_50 (by decide) rfl (fun hc671 => ?_) (fun hc671 => absurd hc671 (by decide))
            refine dk_iload_n (pc' := 61) hE dX11_readWorks_60 rfl rfl rfl ?_
            refine dk_if_eq (tgt := 71) (pc' := 64) hE dX11_readWorks_61 (by decide) rfl (fun hc672 => ?_) (fun hc672 => absurd hc672 (by decide))
            refine dk_aload_n (pc' := 72) hE dX11_readWorks_71 rfl rfl rfl ?_
            refine dk_iload_n (pc' := 73) hE dX11_readWorks_72 rfl rfl rfl ?_
            have hz673 : σ667 141 3 = σ 141 3 := by rw [hfσ667 141 3 (by omega), hfσ657 141 3 (by omega)]
            have hz674 : σ667 141 28 = r := by rw [hfσ667 141 28 (by omega), hfσ657 141 28 (by omega), hr]
            have hz675 : σ667 147 r = n := by rw [hfσ667 147 r (by omega), hfσ657 147 r (by omega), hn]
            have hz676 : σ667 145 r = w := by rw [hfσ667 145 r (by omega), hfσ657 145 r (by omega), hw]
            have hz677 : σ667 146 r = q := by rw [hfσ667 146 r (by omega), hfσ657 146 r (by omega), hq]
            refine dk_cV (pc' := 76) (as := [(0, 1)]) hE lk_X11_294 (ct_X11_readPart l G hGd 1 r n w q) dX11_readWorks_73 rfl is_141 rfl (by decide) (Nat.le_of_ble_eq_true rfl) ⟨rfl, (NX_tk (gi670).1), (by omega), (by omega), (by omega), (by omega), (by omega), (by omega), ((gi670).2), (by omega), (by omega), (by omega), (fun i hi => (have e_ : σ667 156 i = σ 156 i := (by rw [hfσ667 156 i (by omega), hfσ657 156 i (by omega)]); have f_ := ((hTI.2.1) (w - 1) (by omega) (by omega)).2; (by subst hi; rw [show 4 * r + (w - 1) = 4 * r + w - 1 by omega] at f_; omega))), (by omega)⟩ rfl (fun r679 σ678 hr679 hor679 => ?_)
            obtain ⟨rfl, hfσ678, hpr679⟩ := hr679
            have gi680 : RX r σ667 σ678 := RX_rx gi670 hpr679.1
            refine dk_aload_n (pc' := 77) hE dX11_readWorks_76 rfl rfl rfl ?_
            refine dk_aload_n (pc' := 78) hE dX11_readWorks_77 rfl rfl rfl ?_
            refine dk_bipush (pc' := 80) hE dX11_readWorks_78 (by decide) rfl ?_
            refine dk_cV (pc' := 83) (as := [(0, 59)]) hE lk_X11_298 (ct_X11_is l G hGd 59) dX11_readWorks_80 rfl is_141 rfl (by decide) (Nat.le_of_ble_eq_true rfl) rfl rfl (fun r682 σ681 hr682 hor682 => ?_)
            obtain ⟨v683, rfl, hfσ681, hpr682⟩ := hr682
            have hsσ681 : σ678 = σ681 := (funext (fun k => funext (fun j => hfσ681 k j not_false))).symm
            subst hsσ681
            rcases hpr682 with ⟨rfl, hpr682⟩ | rfl
            · skip
              have hz684 : σ678 141 3 = σ 141 3 := by rw [hfσ678 141 3 (by omega), hfσ667 141 3 (by omega), hfσ657 141 3 (by omega)]
              refine dk_cV (pc' := 86) (as := [(0, 1)]) hE lk_X11_301 (ct_X11_must l G hGd 1) dX11_readWorks_83 rfl is_141 rfl (by decide) (Nat.le_of_ble_eq_true rfl) ⟨rfl, (NX_tk (gi680).1), (by omega)⟩ rfl (fun r686 σ685 hr686 hor686 => ?_)
              obtain ⟨rfl, hfσ685, hpr686⟩ := hr686
              have gi687 : RX r σ667 σ685 := RX_tr gi680 hpr686 (fun k_ j_ h_ => hfσ685 k_ j_ (by omega))
              refine dk_aload_n (pc' := 87) hE dX11_readWorks_86 rfl rfl rfl ?_
              refine gf_11_11 (pc' := 90) (w := 144) hE fl_X11_20 dX11_readWorks_87 is_141 rfl rfl ?_
              refine dk_aload_n (pc' := 91) hE dX11_readWorks_90 rfl rfl rfl ?_
              refine gf_11_28 (pc' := 94) hE fl_X11_269 dX11_readWorks_91 is_141 rfl (fun v688 hv688 htv688 hbv688 => ?_)
              have hq688 : r = v688 := (show v688 = r by rw [hv688, hfσ685 141 28 (by omega), hfσ678 141 28 (by omega), hfσ667 141 28 (by omega), hfσ657 141 28 (by omega), hr]).symm
              subst hq688
              clear htv688 hbv688
              refine dk_dup2 (pc' := 95) hE dX11_readWorks_94 (show (0 : Nat) ≠ 3 by decide) (show (4 : Nat) ≠ 3 by decide) rfl ?_
              refine ga_72 (pc' := 96) hE dX11_readWorks_95 is_144 (by omega) rfl (fun v689 hv689 htv689 hbv689 => ?_)
              refine dk_iconst (pc' := 97) hE dX11_readWorks_96 (by decide) rfl ?_
              refine dk_iaddW (pc' := 98) hE dX11_readWorks_97 rfl (fun v690 hv690 _ => ?_)
              refine pa_72 (pc' := 99) hE dX11_readWorks_98 is_144 (by omega) trivial rfl (fun σ691 eσ691 => ?_)
              have hz692 : σ691 147 r = n + 1 := by rw [eσ691, dk_up_n (show ¬ (147 = 144 ∧ r = r) by omega), hfσ685 147 r (by omega), (hpr679.2.1).symm]
              have hz693 : σ691 145 r = w := by rw [eσ691, dk_up_n (show ¬ (145 = 144 ∧ r = r) by omega), hfσ685 145 r (by omega), hfσ678 145 r (by omega), hfσ667 145 r (by omega), hfσ657 145 r (by omega), hw]
              have hz694 : σ691 146 r = q + 1 := by rw [eσ691, dk_up_n (show ¬ (146 = 144 ∧ r = r) by omega), hfσ685 146 r (by omega), (hpr679.2.2).symm]
              have gi695 : RX r σ667 σ691 := RX_fr gi687 (fun k_ j_ h_ => by rw [eσ691, dk_up_n (show ¬ (k_ = 144 ∧ j_ = r) by omega)])
              exact dk_vret (st := []) hE hR dX11_readWorks_99 ⟨rfl, (fun k_ j_ h_ => by rw [eσ691, dk_up_n (show ¬ (k_ = 144 ∧ j_ = r) from fun q_ => h_ (Or.inr (Or.inr (Or.inr (Or.inr (Or.inr (Or.inr (Or.inr (dk_wr (lo := 144) (hi := 159) q_.1 (by decide)))))))))), hfσ685 k_ j_ (fun w_ => h_ (w_.elim (fun x0_ => Or.inl (x0_)) (fun y0_ => y0_.elim (fun x1_ => Or.inr (Or.inl (x1_))) (fun y1_ => y1_.elim (fun x2_ => Or.inr (Or.inr (Or.inl (x2_)))) (fun y2_ => y2_.elim (fun x3_ => Or.inr (Or.inr (Or.inr (Or.inl (x3_))))) (fun y3_ => y3_.elim (fun x4_ => Or.inr (Or.inr (Or.inr (Or.inr (Or.inl (x4_)))))) (fun y4_ => y4_.elim (fun x5_ => Or.inr (Or.inr (Or.inr (Or.inr (Or.inr (Or.inl (x5_))))))) (fun y5_ => Or.inr (Or.inr (Or.inr (Or.inr (Or.inr (Or.inr (Or.inl (y5_))))))))))))))), hfσ678 k_ j_ (fun w_ => h_ (w_.elim (fun x0_ => Or.inl (x0_)) (fun y0_ => y0_.elim (fun x1_ => Or.inr (Or.inl (x1_))) (fun y1_ => y1_.elim (fun x2_ => Or.inr (Or.inr (Or.inl (x2_)))) (fun y2_ => y2_.elim (fun x3_ => Or.inr (Or.inr (Or.inr (Or.inl (x3_))))) (fun y3_ => y3_.elim (fun x4_ => Or.inr (Or.inr (Or.inr (Or.inr (Or.inl (x4_)))))) (fun y4_ => y4_.elim (fun x5_ => Or.inr (Or.inr (Or.inr (Or.inr (Or.inr (Or.inl (x5_))))))) (fun y5_ => y5_.elim (fun x6_ => Or.inr (Or.inr (Or.inr (Or.inr (Or.inr (Or.inr (Or.inl (x6_)))))))) (fun y6_ => y6_.elim (fun x7_ => Or.inr (Or.inr (Or.inr (Or.inr (Or.inr (Or.inr (Or.inr (dk_wrr (lo := 144) (hi := 159) x7_ (by decide) (by decide))))))))) (fun y7_ => y7_.elim (fun x8_ => Or.inr (Or.inr (Or.inr (Or.inr (Or.inr (Or.inr (Or.inr (dk_wrr (lo := 144) (hi := 159) x8_ (by decide) (by decide))))))))) (fun y8_ => Or.inr (Or.inr (Or.inr (Or.inr (Or.inr (Or.inr (Or.inr (dk_wr (lo := 144) (hi := 159) y8_ (by decide))))))))))))))))))), hfσ667 k_ j_ (fun w_ => h_ (w_.elim (fun x0_ => Or.inr (Or.inr (Or.inl (x0_)))) (fun y0_ => y0_.elim (fun x1_ => Or.inr (Or.inr (Or.inr (Or.inl (x1_))))) (fun y1_ => y1_.elim (fun x2_ => Or.inr (Or.inr (Or.inr (Or.inr (Or.inl (x2_)))))) (fun y2_ => y2_.elim (fun x3_ => Or.inr (Or.inr (Or.inr (Or.inr (Or.inr (Or.inl (x3_))))))) (fun y3_ => Or.inr (Or.inr (Or.inr (Or.inr (Or.inr (Or.inr (Or.inl (y3_))))))))))))), hfσ657 k_ j_ (fun w_ => h_ (w_.elim (fun x0_ => Or.inl (x0_)) (fun y0_ => Or.inr (Or.inl (y0_)))))]), ⟨RX_rx hB gi695, fun a_ q_ => Or.inr (by have x_ := (gi695).1.2.2.1; have t_ := hT.2.2 q_; have y_ := H46.2.2.1; omega), by omega⟩⟩
            · skip
              have hz696 : σ678 141 3 = σ 141 3 := by rw [hfσ678 141 3 (by omega), hfσ667 141 3 (by omega), hfσ657 141 3 (by omega)]
              refine dk_cV (pc' := 86) (as := [(0, 0)]) hE lk_X11_301 (ct_X11_must l G hGd 0) dX11_readWorks_83 rfl is_141 rfl (by decide) (Nat.le_of_ble_eq_true rfl) ⟨rfl, (NX_tk (gi680).1), (by omega)⟩ rfl (fun r698 σ697 hr698 hor698 => ?_)
              obtain ⟨rfl, hfσ697, hpr698⟩ := hr698
              have gi699 : RX r σ667 σ697 := RX_tr gi680 hpr698 (fun k_ j_ h_ => hfσ697 k_ j_ (by omega))
              refine dk_aload_n (pc' := 87) hE dX11_readWorks_86 rfl rfl rfl ?_
              refine gf_11_11 (pc' := 90) (w := 144) hE fl_X11_20 dX11_readWorks_87 is_141 rfl rfl ?_
              refine dk_aload_n (pc' := 91) hE dX11_readWorks_90 rfl rfl rfl ?_
              refine gf_11_28 (pc' := 94) hE fl_X11_269 dX11_readWorks_91 is_141 rfl (fun v700 hv700 htv700 hbv700 => ?_)
              have hq700 : r = v700 := (show v700 = r by rw [hv700, hfσ697 141 28 (by omega), hfσ678 141 28 (by omega), hfσ667 141 28 (by omega), hfσ657 141 28 (by omega), hr]).symm
              subst hq700
              clear htv700 hbv700
              refine dk_dup2 (pc' := 95) hE dX11_readWorks_94 (show (0 : Nat) ≠ 3 by decide) (show (4 : Nat) ≠ 3 by decide) rfl ?_
              refine ga_72 (pc' := 96) hE dX11_readWorks_95 is_144 (by omega) rfl (fun v701 hv701 htv701 hbv701 => ?_)
              refine dk_iconst (pc' := 97) hE dX11_readWorks_96 (by decide) rfl ?_
              refine dk_iaddW (pc' := 98) hE dX11_readWorks_97 rfl (fun v702 hv702 _ => ?_)
              refine pa_72 (pc' := 99) hE dX11_readWorks_98 is_144 (by omega) trivial rfl (fun σ703 eσ703 => ?_)
              have hz704 : σ703 147 r = n + 1 := by rw [eσ703, dk_up_n (show ¬ (147 = 144 ∧ r = r) by omega), hfσ697 147 r (by omega), (hpr679.2.1).symm]
              have hz705 : σ703 145 r = w := by rw [eσ703, dk_up_n (show ¬ (145 = 144 ∧ r = r) by omega), hfσ697 145 r (by omega), hfσ678 145 r (by omega), hfσ667 145 r (by omega), hfσ657 145 r (by omega), hw]
              have hz706 : σ703 146 r = q + 1 := by rw [eσ703, dk_up_n (show ¬ (146 = 144 ∧ r = r) by omega), hfσ697 146 r (by omega), (hpr679.2.2).symm]
              have gi707 : RX r σ667 σ703 := RX_fr gi699 (fun k_ j_ h_ => by rw [eσ703, dk_up_n (show ¬ (k_ = 144 ∧ j_ = r) by omega)])
              exact dk_vret (st := []) hE hR dX11_readWorks_99 ⟨rfl, (fun k_ j_ h_ => by rw [eσ703, dk_up_n (show ¬ (k_ = 144 ∧ j_ = r) from fun q_ => h_ (Or.inr (Or.inr (Or.inr (Or.inr (Or.inr (Or.inr (Or.inr (dk_wr (lo := 144) (hi := 159) q_.1 (by decide)))))))))), hfσ697 k_ j_ (fun w_ => h_ (w_.elim (fun x0_ => Or.inl (x0_)) (fun y0_ => y0_.elim (fun x1_ => Or.inr (Or.inl (x1_))) (fun y1_ => y1_.elim (fun x2_ => Or.inr (Or.inr (Or.inl (x2_)))) (fun y2_ => y2_.elim (fun x3_ => Or.inr (Or.inr (Or.inr (Or.inl (x3_))))) (fun y3_ => y3_.elim (fun x4_ => Or.inr (Or.inr (Or.inr (Or.inr (Or.inl (x4_)))))) (fun y4_ => y4_.elim (fun x5_ => Or.inr (Or.inr (Or.inr (Or.inr (Or.inr (Or.inl (x5_))))))) (fun y5_ => Or.inr (Or.inr (Or.inr (Or.inr (Or.inr (Or.inr (Or.inl (y5_))))))))))))))), hfσ678 k_ j_ (fun w_ => h_ (w_.elim (fun x0_ => Or.inl (x0_)) (fun y0_ => y0_.elim (fun x1_ => Or.inr (Or.inl (x1_))) (fun y1_ => y1_.elim (fun x2_ => Or.inr (Or.inr (Or.inl (x2_)))) (fun y2_ => y2_.elim (fun x3_ => Or.inr (Or.inr (Or.inr (Or.inl (x3_))))) (fun y3_ => y3_.elim (fun x4_ => Or.inr (Or.inr (Or.inr (Or.inr (Or.inl (x4_)))))) (fun y4_ => y4_.elim (fun x5_ => Or.inr (Or.inr (Or.inr (Or.inr (Or.inr (Or.inl (x5_))))))) (fun y5_ => y5_.elim (fun x6_ => Or.inr (Or.inr (Or.inr (Or.inr (Or.inr (Or.inr (Or.inl (x6_)))))))) (fun y6_ => y6_.elim (fun x7_ => Or.inr (Or.inr (Or.inr (Or.inr (Or.inr (Or.inr (Or.inr (dk_wrr (lo := 144) (hi := 159) x7_ (by decide) (by decide))))))))) (fun y7_ => y7_.elim (fun x8_ => Or.inr (Or.inr (Or.inr (Or.inr (Or.inr (Or.inr (Or.inr (dk_wrr (lo := 144) (hi := 159) x8_ (by decide) (by decide))))))))) (fun y8_ => Or.inr (Or.inr (Or.inr (Or.inr (Or.inr (Or.inr (Or.inr (dk_wr (lo := 144) (hi := 159) y8_ (by decide))))))))))))))))))), hfσ667 k_ j_ (fun w_ => h_ (w_.elim (fun x0_ => Or.inr (Or.inr (Or.inl (x0_)))) (fun y0_ => y0_.elim (fun x1_ => Or.inr (Or.inr (Or.inr (Or.inl (x1_))))) (fun y1_ => y1_.elim (fun x2_ => Or.inr (Or.inr (Or.inr (Or.inr (Or.inl (x2_)))))) (fun y2_ => y2_.elim (fun x3_ => Or.inr (Or.inr (Or.inr (Or.inr (Or.inr (Or.inl (x3_))))))) (fun y3_ => Or.inr (Or.inr (Or.inr (Or.inr (Or.inr (Or.inr (Or.inl (y3_))))))))))))), hfσ657 k_ j_ (fun w_ => h_ (w_.elim (fun x0_ => Or.inl (x0_)) (fun y0_ => Or.inr (Or.inl (y0_)))))]), ⟨RX_rx hB gi707, fun a_ q_ => Or.inr (by have x_ := (gi707).1.2.2.1; have t_ := hT.2.2 q_; have y_ := H46.2.2.1; omega), by omega⟩⟩
          · skip
            refine dk_if_ne (tgt := 45) (pc' := 44) hE dX11_readWorks_41 (by decide) rfl (fun hc708 => absurd hc708 (by decide)) (fun hc708 => ?_)
            have hz709 : σ657 147 r = n := by rw [hfσ657 147 r (by omega), hn]
            have hz710 : σ657 145 r = w := by rw [hfσ657 145 r (by omega), hw]
            have hz711 : σ657 146 r = q := by rw [hfσ657 146 r (by omega), hq]
            exact dk_vret (st := []) hE hR dX11_readWorks_44 ⟨rfl, (fun k_ j_ h_ => by rw [hfσ657 k_ j_ (fun w_ => h_ (w_.elim (fun x0_ => Or.inl (x0_)) (fun y0_ => Or.inr (Or.inl (y0_)))))]), ⟨gi659, fun a_ q_ => Or.inl (by omega), by omega⟩⟩
        · skip
          refine dk_if_eq (tgt := 37) (pc' := 33) hE dX11_readWorks_30 (by decide) rfl (fun hc712 => ?_) (fun hc712 => absurd hc712 (by decide))
          refine dk_aload_n (pc' := 38) hE dX11_readWorks_37 rfl rfl rfl ?_
          refine dk_cV (pc' := 41) (as := []) hE lk_X11_250 (ct_X11_isGood l G hGd) dX11_readWorks_38 rfl is_141 rfl (by decide) (Nat.le_of_ble_eq_true rfl) rfl rfl (fun r714 σ713 hr714 hor714 => ?_)
          obtain ⟨v715, rfl, hfσ713, hpr714⟩ := hr714
          have hsσ713 : σ = σ713 := (funext (fun k => funext (fun j => hfσ713 k j not_false))).symm
          subst hsσ713
          rcases hpr714 with ⟨rfl, hpr714⟩ | ⟨rfl, hpr714⟩
          · skip
            refine dk_if_ne (tgt := 45) (pc' := 44) hE dX11_readWorks_41 (by decide) rfl (fun hc716 => ?_) (fun hc716 => absurd hc716 (by decide))
            refine dk_aload_n (pc' := 46) hE dX11_readWorks_45 rfl rfl rfl ?_
            refine dk_cV (pc' := 49) (as := []) hE lk_X11_254 (ct_X11_next l G hGd) dX11_readWorks_46 rfl is_141 rfl (by decide) (Nat.le_of_ble_eq_true rfl) ⟨rfl, ((NX_tk ((RX_of hT hTI)).1).2.1), (by omega)⟩ rfl (fun r718 σ717 hr718 hor718 => ?_)
            obtain ⟨rfl, hfσ717, hpr718⟩ := hr718
            have H46 := hpr718
            have gi719 : RX r σ σ717 := RX_y (RX_of hT hTI) hpr718 (fun k_ j_ h_ => hfσ717 k_ j_ (by omega))
            have hB : RX r σ σ717 := gi719
            have gi720 : RX r σ717 σ717 := RX_of (NX_tk hB.1) hB.2
            refine dk_iload_n (pc' := 50) hE dX11_readWorks_49 rfl rfl rfl ?_
            refine dk_if_eq (tgt := 60) (pc' := 53) hE dX11_readWorks_50 (by decide) rfl (fun hc721 => ?_) (fun hc721 => absurd hc721 (by decide))
            refine dk_iload_n (pc' := 61) hE dX11_readWorks_60 rfl rfl rfl ?_
            refine dk_if_eq (tgt := 71) (pc' := 64) hE dX11_readWorks_61 (by decide) rfl (fun hc722 => ?_) (fun hc722 => absurd hc722 (by decide))
            refine dk_aload_n (pc' := 72) hE dX11_readWorks_71 rfl rfl rfl ?_
            refine dk_iload_n (pc' := 73) hE dX11_readWorks_72 rfl rfl rfl ?_
            have hz723 : σ717 141 3 = σ 141 3 := by rw [hfσ717 141 3 (by omega)]
            have hz724 : σ717 141 28 = r := by rw [hfσ717 141 28 (by omega), hr]
            have hz725 : σ717 147 r = n := by rw [hfσ717 147 r (by omega), hn]
            have hz726 : σ717 145 r = w := by rw [hfσ717 145 r (by omega), hw]
            have hz727 : σ717 146 r = q := by rw [hfσ717 146 r (by omega), hq]
            refine dk_cV (pc' := 76) (as := [(0, 1)]) hE lk_X11_294 (ct_X11_readPart l G hGd 1 r n w q) dX11_readWorks_73 rfl is_141 rfl (by decide) (Nat.le_of_ble_eq_true rfl) ⟨rfl, (NX_tk (gi720).1), (by omega), (by omega), (by omega), (by omega), (by omega), (by omega), ((gi720).2), (by omega), (by omega), (by omega), (fun i hi => (have e_ : σ717 156 i = σ 156 i := (by rw [hfσ717 156 i (by omega)]); have f_ := ((hTI.2.1) (w - 1) (by omega) (by omega)).2; (by subst hi; rw [show 4 * r + (w - 1) = 4 * r + w - 1 by omega] at f_; omega))), (by omega)⟩ rfl (fun r729 σ728 hr729 hor729 => ?_)
            obtain ⟨rfl, hfσ728, hpr729⟩ := hr729
            have gi730 : RX r σ717 σ728 := RX_rx gi720 hpr729.1
            refine dk_aload_n (pc' := 77) hE dX11_readWorks_76 rfl rfl rfl ?_
            refine dk_aload_n (pc' := 78) hE dX11_readWorks_77 rfl rfl rfl ?_
            refine dk_bipush (pc' := 80) hE dX11_readWorks_78 (by decide) rfl ?_
            refine dk_cV (pc' := 83) (as := [(0, 59)]) hE lk_X11_298 (ct_X11_is l G hGd 59) dX11_readWorks_80 rfl is_141 rfl (by decide) (Nat.le_of_ble_eq_true rfl) rfl rfl (fun r732 σ731 hr732 hor732 => ?_)
            obtain ⟨v733, rfl, hfσ731, hpr732⟩ := hr732
            have hsσ731 : σ728 = σ731 := (funext (fun k => funext (fun j => hfσ731 k j not_false))).symm
            subst hsσ731
            rcases hpr732 with ⟨rfl, hpr732⟩ | rfl
            · skip
              have hz734 : σ728 141 3 = σ 141 3 := by rw [hfσ728 141 3 (by omega), hfσ717 141 3 (by omega)]
              refine dk_cV (pc' := 86) (as := [(0, 1)]) hE lk_X11_301 (ct_X11_must l G hGd 1) dX11_readWorks_83 rfl is_141 rfl (by decide) (Nat.le_of_ble_eq_true rfl) ⟨rfl, (NX_tk (gi730).1), (by omega)⟩ rfl (fun r736 σ735 hr736 hor736 => ?_)
              obtain ⟨rfl, hfσ735, hpr736⟩ := hr736
              have gi737 : RX r σ717 σ735 := RX_tr gi730 hpr736 (fun k_ j_ h_ => hfσ735 k_ j_ (by omega))
              refine dk_aload_n (pc' := 87) hE dX11_readWorks_86 rfl rfl rfl ?_
              refine gf_11_11 (pc' := 90) (w := 144) hE fl_X11_20 dX11_readWorks_87 is_141 rfl rfl ?_
              refine dk_aload_n (pc' := 91) hE dX11_readWorks_90 rfl rfl rfl ?_
              refine gf_11_28 (pc' := 94) hE fl_X11_269 dX11_readWorks_91 is_141 rfl (fun v738 hv738 htv738 hbv738 => ?_)
              have hq738 : r = v738 := (show v738 = r by rw [hv738, hfσ735 141 28 (by omega), hfσ728 141 28 (by omega), hfσ717 141 28 (by omega), hr]).symm
              subst hq738
              clear htv738 hbv738
              refine dk_dup2 (pc' := 95) hE dX11_readWorks_94 (show (0 : Nat) ≠ 3 by decide) (show (4 : Nat) ≠ 3 by decide) rfl ?_
              refine ga_72 (pc' := 96) hE dX11_readWorks_95 is_144 (by omega) rfl (fun v739 hv739 htv739 hbv739 => ?_)
              refine dk_iconst (pc' := 97) hE dX11_readWorks_96 (by decide) rfl ?_
              refine dk_iaddW (pc' := 98) hE dX11_readWorks_97 rfl (fun v740 hv740 _ => ?_)
              refine pa_72 (pc' := 99) hE dX11_readWorks_98 is_144 (by omega) trivial rfl (fun σ741 eσ741 => ?_)
              have hz742 : σ741 147 r = n + 1 := by rw [eσ741, dk_up_n (show ¬ (147 = 144 ∧ r = r) by omega), hfσ735 147 r (by omega), (hpr729.2.1).symm]
              have hz743 : σ741 145 r = w := by rw [eσ741, dk_up_n (show ¬ (145 = 144 ∧ r = r) by omega), hfσ735 145 r (by omega), hfσ728 145 r (by omega), hfσ717 145 r (by omega), hw]
              have hz744 : σ741 146 r = q + 1 := by rw [eσ741, dk_up_n (show ¬ (146 = 144 ∧ r = r) by omega), hfσ735 146 r (by omega), (hpr729.2.2).symm]
              have gi745 : RX r σ717 σ741 := RX_fr gi737 (fun k_ j_ h_ => by rw [eσ741, dk_up_n (show ¬ (k_ = 144 ∧ j_ = r) by omega)])
              exact dk_vret (st := []) hE hR dX11_readWorks_99 ⟨rfl, (fun k_ j_ h_ => by rw [eσ741, dk_up_n (show ¬ (k_ = 144 ∧ j_ = r) from fun q_ => h_ (Or.inr (Or.inr (Or.inr (Or.inr (Or.inr (Or.inr (Or.inr (dk_wr (lo := 144) (hi := 159) q_.1 (by decide)))))))))), hfσ735 k_ j_ (fun w_ => h_ (w_.elim (fun x0_ => Or.inl (x0_)) (fun y0_ => y0_.elim (fun x1_ => Or.inr (Or.inl (x1_))) (fun y1_ => y1_.elim (fun x2_ => Or.inr (Or.inr (Or.inl (x2_)))) (fun y2_ => y2_.elim (fun x3_ => Or.inr (Or.inr (Or.inr (Or.inl (x3_))))) (fun y3_ => y3_.elim (fun x4_ => Or.inr (Or.inr (Or.inr (Or.inr (Or.inl (x4_)))))) (fun y4_ => y4_.elim (fun x5_ => Or.inr (Or.inr (Or.inr (Or.inr (Or.inr (Or.inl (x5_))))))) (fun y5_ => Or.inr (Or.inr (Or.inr (Or.inr (Or.inr (Or.inr (Or.inl (y5_))))))))))))))), hfσ728 k_ j_ (fun w_ => h_ (w_.elim (fun x0_ => Or.inl (x0_)) (fun y0_ => y0_.elim (fun x1_ => Or.inr (Or.inl (x1_))) (fun y1_ => y1_.elim (fun x2_ => Or.inr (Or.inr (Or.inl (x2_)))) (fun y2_ => y2_.elim (fun x3_ => Or.inr (Or.inr (Or.inr (Or.inl (x3_))))) (fun y3_ => y3_.elim (fun x4_ => Or.inr (Or.inr (Or.inr (Or.inr (Or.inl (x4_)))))) (fun y4_ => y4_.elim (fun x5_ => Or.inr (Or.inr (Or.inr (Or.inr (Or.inr (Or.inl (x5_))))))) (fun y5_ => y5_.elim (fun x6_ => Or.inr (Or.inr (Or.inr (Or.inr (Or.inr (Or.inr (Or.inl (x6_)))))))) (fun y6_ => y6_.elim (fun x7_ => Or.inr (Or.inr (Or.inr (Or.inr (Or.inr (Or.inr (Or.inr (dk_wrr (lo := 144) (hi := 159) x7_ (by decide) (by decide))))))))) (fun y7_ => y7_.elim (fun x8_ => Or.inr (Or.inr (Or.inr (Or.inr (Or.inr (Or.inr (Or.inr (dk_wrr (lo := 144) (hi := 159) x8_ (by decide) (by decide))))))))) (fun y8_ => Or.inr (Or.inr (Or.inr (Or.inr (Or.inr (Or.inr (Or.inr (dk_wr (lo := 144) (hi := 159) y8_ (by decide))))))))))))))))))), hfσ717 k_ j_ (fun w_ => h_ (w_.elim (fun x0_ => Or.inr (Or.inr (Or.inl (x0_)))) (fun y0_ => y0_.elim (fun x1_ => Or.inr (Or.inr (Or.inr (Or.inl (x1_))))) (fun y1_ => y1_.elim (fun x2_ => Or.inr (Or.inr (Or.inr (Or.inr (Or.inl (x2_)))))) (fun y2_ => y2_.elim (fun x3_ => Or.inr (Or.inr (Or.inr (Or.inr (Or.inr (Or.inl (x3_))))))) (fun y3_ => Or.inr (Or.inr (Or.inr (Or.inr (Or.inr (Or.inr (Or.inl (y3_)))))))))))))]), ⟨RX_rx hB gi745, fun a_ q_ => Or.inr (by have x_ := (gi745).1.2.2.1; have t_ := hT.2.2 q_; have y_ := H46.2.2.1; omega), by omega⟩⟩
            · skip
              have hz746 : σ728 141 3 = σ 141 3 := by rw [hfσ728 141 3 (by omega), hfσ717 141 3 (by omega)]
              refine dk_cV (pc' := 86) (as := [(0, 0)]) hE lk_X11_301 (ct_X11_must l G hGd 0) dX11_readWorks_83 rfl is_141 rfl (by decide) (Nat.le_of_ble_eq_true rfl) ⟨rfl, (NX_tk (gi730).1), (by omega)⟩ rfl (fun r748 σ747 hr748 hor748 => ?_)
              obtain ⟨rfl, hfσ747, hpr748⟩ := hr748
              have gi749 : RX r σ717 σ747 := RX_tr gi730 hpr748 (fun k_ j_ h_ => hfσ747 k_ j_ (by omega))
              refine dk_aload_n (pc' := 87) hE dX11_readWorks_86 rfl rfl rfl ?_
              refine gf_11_11 (pc' := 90) (w := 144) hE fl_X11_20 dX11_readWorks_87 is_141 rfl rfl ?_
              refine dk_aload_n (pc' := 91) hE dX11_readWorks_90 rfl rfl rfl ?_
              refine gf_11_28 (pc' := 94) hE fl_X11_269 dX11_readWorks_91 is_141 rfl (fun v750 hv750 htv750 hbv750 => ?_)
              have hq750 : r = v750 := (show v750 = r by rw [hv750, hfσ747 141 28 (by omega), hfσ728 141 28 (by omega), hfσ717 141 28 (by omega), hr]).symm
              subst hq750
              clear htv750 hbv750
              refine dk_dup2 (pc' := 95) hE dX11_readWorks_94 (show (0 : Nat) ≠ 3 by decide) (show (4 : Nat) ≠ 3 by decide) rfl ?_
              refine ga_72 (pc' := 96) hE dX11_readWorks_95 is_144 (by omega) rfl (fun v751 hv751 htv751 hbv751 => ?_)
              refine dk_iconst (pc' := 97) hE dX11_readWorks_96 (by decide) rfl ?_
              refine dk_iaddW (pc' := 98) hE dX11_readWorks_97 rfl (fun v752 hv752 _ => ?_)
              refine pa_72 (pc' := 99) hE dX11_readWorks_98 is_144 (by omega) trivial rfl (fun σ753 eσ753 => ?_)
              have hz754 : σ753 147 r = n + 1 := by rw [eσ753, dk_up_n (show ¬ (147 = 144 ∧ r = r) by omega), hfσ747 147 r (by omega), (hpr729.2.1).symm]
              have hz755 : σ753 145 r = w := by rw [eσ753, dk_up_n (show ¬ (145 = 144 ∧ r = r) by omega), hfσ747 145 r (by omega), hfσ728 145 r (by omega), hfσ717 145 r (by omega), hw]
              have hz756 : σ753 146 r = q + 1 := by rw [eσ753, dk_up_n (show ¬ (146 = 144 ∧ r = r) by omega), hfσ747 146 r (by omega), (hpr729.2.2).symm]
              have gi757 : RX r σ717 σ753 := RX_fr gi749 (fun k_ j_ h_ => by rw [eσ753, dk_up_n (show ¬ (k_ = 144 ∧ j_ = r) by omega)])
              exact dk_vret (st := []) hE hR dX11_readWorks_99 ⟨rfl, (fun k_ j_ h_ => by rw [eσ753, dk_up_n (show ¬ (k_ = 144 ∧ j_ = r) from fun q_ => h_ (Or.inr (Or.inr (Or.inr (Or.inr (Or.inr (Or.inr (Or.inr (dk_wr (lo := 144) (hi := 159) q_.1 (by decide)))))))))), hfσ747 k_ j_ (fun w_ => h_ (w_.elim (fun x0_ => Or.inl (x0_)) (fun y0_ => y0_.elim (fun x1_ => Or.inr (Or.inl (x1_))) (fun y1_ => y1_.elim (fun x2_ => Or.inr (Or.inr (Or.inl (x2_)))) (fun y2_ => y2_.elim (fun x3_ => Or.inr (Or.inr (Or.inr (Or.inl (x3_))))) (fun y3_ => y3_.elim (fun x4_ => Or.inr (Or.inr (Or.inr (Or.inr (Or.inl (x4_)))))) (fun y4_ => y4_.elim (fun x5_ => Or.inr (Or.inr (Or.inr (Or.inr (Or.inr (Or.inl (x5_))))))) (fun y5_ => Or.inr (Or.inr (Or.inr (Or.inr (Or.inr (Or.inr (Or.inl (y5_))))))))))))))), hfσ728 k_ j_ (fun w_ => h_ (w_.elim (fun x0_ => Or.inl (x0_)) (fun y0_ => y0_.elim (fun x1_ => Or.inr (Or.inl (x1_))) (fun y1_ => y1_.elim (fun x2_ => Or.inr (Or.inr (Or.inl (x2_)))) (fun y2_ => y2_.elim (fun x3_ => Or.inr (Or.inr (Or.inr (Or.inl (x3_))))) (fun y3_ => y3_.elim (fun x4_ => Or.inr (Or.inr (Or.inr (Or.inr (Or.inl (x4_)))))) (fun y4_ => y4_.elim (fun x5_ => Or.inr (Or.inr (Or.inr (Or.inr (Or.inr (Or.inl (x5_))))))) (fun y5_ => y5_.elim (fun x6_ => Or.inr (Or.inr (Or.inr (Or.inr (Or.inr (Or.inr (Or.inl (x6_)))))))) (fun y6_ => y6_.elim (fun x7_ => Or.inr (Or.inr (Or.inr (Or.inr (Or.inr (Or.inr (Or.inr (dk_wrr (lo := 144) (hi := 159) x7_ (by decide) (by decide))))))))) (fun y7_ => y7_.elim (fun x8_ => Or.inr (Or.inr (Or.inr (Or.inr (Or.inr (Or.inr (Or.inr (dk_wrr (lo := 144) (hi := 159) x8_ (by decide) (by decide))))))))) (fun y8_ => Or.inr (Or.inr (Or.inr (Or.inr (Or.inr (Or.inr (Or.inr (dk_wr (lo := 144) (hi := 159) y8_ (by decide))))))))))))))))))), hfσ717 k_ j_ (fun w_ => h_ (w_.elim (fun x0_ => Or.inr (Or.inr (Or.inl (x0_)))) (fun y0_ => y0_.elim (fun x1_ => Or.inr (Or.inr (Or.inr (Or.inl (x1_))))) (fun y1_ => y1_.elim (fun x2_ => Or.inr (Or.inr (Or.inr (Or.inr (Or.inl (x2_)))))) (fun y2_ => y2_.elim (fun x3_ => Or.inr (Or.inr (Or.inr (Or.inr (Or.inr (Or.inl (x3_))))))) (fun y3_ => Or.inr (Or.inr (Or.inr (Or.inr (Or.inr (Or.inr (Or.inl (y3_)))))))))))))]), ⟨RX_rx hB gi757, fun a_ q_ => Or.inr (by have x_ := (gi757).1.2.2.1; have t_ := hT.2.2 q_; have y_ := H46.2.2.1; omega), by omega⟩⟩
          · skip
            refine dk_if_ne (tgt := 45) (pc' := 44) hE dX11_readWorks_41 (by decide) rfl (fun hc758 => absurd hc758 (by decide)) (fun hc758 => ?_)
            have hz759 : σ 147 r = n := by rw [hn]
            have hz760 : σ 145 r = w := by rw [hw]
            have hz761 : σ 146 r = q := by rw [hq]
            exact dk_vret (st := []) hE hR dX11_readWorks_44 ⟨rfl, (fun k_ j_ h_ => rfl), ⟨(RX_of hT hTI), fun a_ q_ => Or.inl (by omega), by omega⟩⟩
      · skip
        refine dk_istore_n (pc' := 24) (ls' := [(4, 141), (0, 0), (0, 0), (0, 0)]) hE dX11_readWorks_23 rfl rfl (by decide) rfl ?_
        refine dk_aload_n (pc' := 25) hE dX11_readWorks_24 rfl rfl rfl ?_
        refine dk_iload_n (pc' := 26) hE dX11_readWorks_25 rfl rfl rfl ?_
        refine dk_iload_n (pc' := 27) hE dX11_readWorks_26 rfl rfl rfl ?_
        have hz762 : σ 141 28 = r := by rw [hr]
        have hz763 : σ 145 r = w := by rw [hw]
        have hz764 : σ 146 r = q := by rw [hq]
        refine dk_cV (pc' := 30) (as := [(0, 0), (0, 0)]) hE lk_X11_284 (ct_X11_isFull l G hGd 0 0 r w q) dX11_readWorks_27 rfl is_141 rfl (by decide) (Nat.le_of_ble_eq_true rfl) ⟨rfl, (by omega), (by omega), (by omega), (by omega), (by omega), (by omega)⟩ rfl (fun r766 σ765 hr766 hor766 => ?_)
        obtain ⟨v767, rfl, hfσ765, hpr766⟩ := hr766
        have H27 := hpr766
        have hsσ765 : σ = σ765 := (funext (fun k => funext (fun j => hfσ765 k j not_false))).symm
        subst hsσ765
        rcases hpr766 with ⟨rfl, hpr766⟩ | ⟨rfl, hpr766⟩
        · skip
          refine dk_if_eq (tgt := 37) (pc' := 33) hE dX11_readWorks_30 (by decide) rfl (fun hc768 => absurd hc768 (by decide)) (fun hc768 => ?_)
          refine dk_aload_n (pc' := 34) hE dX11_readWorks_33 rfl rfl rfl ?_
          refine dk_cV (pc' := 37) (as := []) hE lk_X11_257 (ct_X11_wrong l G hGd) dX11_readWorks_34 rfl is_141 rfl (by decide) (Nat.le_of_ble_eq_true rfl) rfl rfl (fun r770 σ769 hr770 hor770 => ?_)
          obtain ⟨rfl, hfσ769, hpr770⟩ := hr770
          have gi771 : RX r σ σ769 := RX_f (RX_of hT hTI) hfσ769 hpr770
          refine dk_aload_n (pc' := 38) hE dX11_readWorks_37 rfl rfl rfl ?_
          refine dk_cV (pc' := 41) (as := []) hE lk_X11_250 (ct_X11_isGood l G hGd) dX11_readWorks_38 rfl is_141 rfl (by decide) (Nat.le_of_ble_eq_true rfl) rfl rfl (fun r773 σ772 hr773 hor773 => ?_)
          obtain ⟨v774, rfl, hfσ772, hpr773⟩ := hr773
          have hsσ772 : σ769 = σ772 := (funext (fun k => funext (fun j => hfσ772 k j not_false))).symm
          subst hsσ772
          rcases hpr773 with ⟨rfl, hpr773⟩ | ⟨rfl, hpr773⟩
          · skip
            refine dk_if_ne (tgt := 45) (pc' := 44) hE dX11_readWorks_41 (by decide) rfl (fun hc775 => ?_) (fun hc775 => absurd hc775 (by decide))
            refine dk_aload_n (pc' := 46) hE dX11_readWorks_45 rfl rfl rfl ?_
            have hz776 : σ769 141 7 = σ 141 7 := by rw [hfσ769 141 7 (by omega)]
            have hz777 : σ769 141 3 = σ 141 3 := by rw [hfσ769 141 3 (by omega)]
            have hz778 : σ769 141 3 = σ 141 3 := by rw [hfσ769 141 3 (by omega)]
            refine dk_cV (pc' := 49) (as := []) hE lk_X11_254 (ct_X11_next l G hGd) dX11_readWorks_46 rfl is_141 rfl (by decide) (Nat.le_of_ble_eq_true rfl) ⟨rfl, ((NX_tk (gi771).1).2.1), (by omega)⟩ rfl (fun r780 σ779 hr780 hor780 => ?_)
            obtain ⟨rfl, hfσ779, hpr780⟩ := hr780
            have H46 := hpr780
            have gi781 : RX r σ σ779 := RX_y gi771 hpr780 (fun k_ j_ h_ => hfσ779 k_ j_ (by omega))
            have hB : RX r σ σ779 := gi781
            have gi782 : RX r σ779 σ779 := RX_of (NX_tk hB.1) hB.2
            refine dk_iload_n (pc' := 50) hE dX11_readWorks_49 rfl rfl rfl ?_
            refine dk_if_eq (tgt := 60) (pc' := 53) hE dX11_readWorks_50 (by decide) rfl (fun hc783 => ?_) (fun hc783 => absurd hc783 (by decide))
            refine dk_iload_n (pc' := 61) hE dX11_readWorks_60 rfl rfl rfl ?_
            refine dk_if_eq (tgt := 71) (pc' := 64) hE dX11_readWorks_61 (by decide) rfl (fun hc784 => ?_) (fun hc784 => absurd hc784 (by decide))
            refine dk_aload_n (pc' := 72) hE dX11_readWorks_71 rfl rfl rfl ?_
            refine dk_iload_n (pc' := 73) hE dX11_readWorks_72 rfl rfl rfl ?_
            have hz785 : σ779 141 3 = σ 141 3 := by rw [hfσ779 141 3 (by omega), hfσ769 141 3 (by omega)]
            have hz786 : σ779 141 28 = r := by rw [hfσ779 141 28 (by omega), hfσ769 141 28 (by omega), hr]
            have hz787 : σ779 147 r = n := by rw [hfσ779 147 r (by omega), hfσ769 147 r (by omega), hn]
            have hz788 : σ779 145 r = w := by rw [hfσ779 145 r (by omega), hfσ769 145 r (by omega), hw]
            have hz789 : σ779 146 r = q := by rw [hfσ779 146 r (by omega), hfσ769 146 r (by omega), hq]
            refine dk_cV (pc' := 76) (as := [(0, 0)]) hE lk_X11_294 (ct_X11_readPart l G hGd 0 r n w q) dX11_readWorks_73 rfl is_141 rfl (by decide) (Nat.le_of_ble_eq_true rfl) ⟨rfl, (NX_tk (gi782).1), (by omega), (by omega), (by omega), (by omega), (by omega), (by omega), ((gi782).2), (by omega), (by omega), (by omega), (fun i hi => (have e_ : σ779 156 i = σ 156 i := (by rw [hfσ779 156 i (by omega), hfσ769 156 i (by omega)]); have f_ := ((hTI.2.1) (w - 1) (by omega) (by omega)).2; (by subst hi; rw [show 4 * r + (w - 1) = 4 * r + w - 1 by omega] at f_; omega))), (by omega)⟩ rfl (fun r791 σ790 hr791 hor791 => ?_)
            obtain ⟨rfl, hfσ790, hpr791⟩ := hr791
            have gi792 : RX r σ779 σ790 := RX_rx gi782 hpr791.1
            refine dk_aload_n (pc' := 77) hE dX11_readWorks_76 rfl rfl rfl ?_
            refine dk_aload_n (pc' := 78) hE dX11_readWorks_77 rfl rfl rfl ?_
            refine dk_bipush (pc' := 80) hE dX11_readWorks_78 (by decide) rfl ?_
            refine dk_cV (pc' := 83) (as := [(0, 59)]) hE lk_X11_298 (ct_X11_is l G hGd 59) dX11_readWorks_80 rfl is_141 rfl (by decide) (Nat.le_of_ble_eq_true rfl) rfl rfl (fun r794 σ793 hr794 hor794 => ?_)
            obtain ⟨v795, rfl, hfσ793, hpr794⟩ := hr794
            have hsσ793 : σ790 = σ793 := (funext (fun k => funext (fun j => hfσ793 k j not_false))).symm
            subst hsσ793
            rcases hpr794 with ⟨rfl, hpr794⟩ | rfl
            · skip
              have hz796 : σ790 141 3 = σ 141 3 := by rw [hfσ790 141 3 (by omega), hfσ779 141 3 (by omega), hfσ769 141 3 (by omega)]
              refine dk_cV (pc' := 86) (as := [(0, 1)]) hE lk_X11_301 (ct_X11_must l G hGd 1) dX11_readWorks_83 rfl is_141 rfl (by decide) (Nat.le_of_ble_eq_true rfl) ⟨rfl, (NX_tk (gi792).1), (by omega)⟩ rfl (fun r798 σ797 hr798 hor798 => ?_)
              obtain ⟨rfl, hfσ797, hpr798⟩ := hr798
              have gi799 : RX r σ779 σ797 := RX_tr gi792 hpr798 (fun k_ j_ h_ => hfσ797 k_ j_ (by omega))
              refine dk_aload_n (pc' := 87) hE dX11_readWorks_86 rfl rfl rfl ?_
              refine gf_11_11 (pc' := 90) (w := 144) hE fl_X11_20 dX11_readWorks_87 is_141 rfl rfl ?_
              refine dk_aload_n (pc' := 91) hE dX11_readWorks_90 rfl rfl rfl ?_
              refine gf_11_28 (pc' := 94) hE fl_X11_269 dX11_readWorks_91 is_141 rfl (fun v800 hv800 htv800 hbv800 => ?_)
              have hq800 : r = v800 := (show v800 = r by rw [hv800, hfσ797 141 28 (by omega), hfσ790 141 28 (by omega), hfσ779 141 28 (by omega), hfσ769 141 28 (by omega), hr]).symm
              subst hq800
              clear htv800 hbv800
              refine dk_dup2 (pc' := 95) hE dX11_readWorks_94 (show (0 : Nat) ≠ 3 by decide) (show (4 : Nat) ≠ 3 by decide) rfl ?_
              refine ga_72 (pc' := 96) hE dX11_readWorks_95 is_144 (by omega) rfl (fun v801 hv801 htv801 hbv801 => ?_)
              refine dk_iconst (pc' := 97) hE dX11_readWorks_96 (by decide) rfl ?_
              refine dk_iaddW (pc' := 98) hE dX11_readWorks_97 rfl (fun v802 hv802 _ => ?_)
              refine pa_72 (pc' := 99) hE dX11_readWorks_98 is_144 (by omega) trivial rfl (fun σ803 eσ803 => ?_)
              have hz804 : σ803 147 r = n + 1 := by rw [eσ803, dk_up_n (show ¬ (147 = 144 ∧ r = r) by omega), hfσ797 147 r (by omega), (hpr791.2.1).symm]
              have hz805 : σ803 145 r = w := by rw [eσ803, dk_up_n (show ¬ (145 = 144 ∧ r = r) by omega), hfσ797 145 r (by omega), hfσ790 145 r (by omega), hfσ779 145 r (by omega), hfσ769 145 r (by omega), hw]
              have hz806 : σ803 146 r = q + 1 := by rw [eσ803, dk_up_n (show ¬ (146 = 144 ∧ r = r) by omega), hfσ797 146 r (by omega), (hpr791.2.2).symm]
              have gi807 : RX r σ779 σ803 := RX_fr gi799 (fun k_ j_ h_ => by rw [eσ803, dk_up_n (show ¬ (k_ = 144 ∧ j_ = r) by omega)])
              exact dk_vret (st := []) hE hR dX11_readWorks_99 ⟨rfl, (fun k_ j_ h_ => by rw [eσ803, dk_up_n (show ¬ (k_ = 144 ∧ j_ = r) from fun q_ => h_ (Or.inr (Or.inr (Or.inr (Or.inr (Or.inr (Or.inr (Or.inr (dk_wr (lo := 144) (hi := 159) q_.1 (by decide)))))))))), hfσ797 k_ j_ (fun w_ => h_ (w_.elim (fun x0_ => Or.inl (x0_)) (fun y0_ => y0_.elim (fun x1_ => Or.inr (Or.inl (x1_))) (fun y1_ => y1_.elim (fun x2_ => Or.inr (Or.inr (Or.inl (x2_)))) (fun y2_ => y2_.elim (fun x3_ => Or.inr (Or.inr (Or.inr (Or.inl (x3_))))) (fun y3_ => y3_.elim (fun x4_ => Or.inr (Or.inr (Or.inr (Or.inr (Or.inl (x4_)))))) (fun y4_ => y4_.elim (fun x5_ => Or.inr (Or.inr (Or.inr (Or.inr (Or.inr (Or.inl (x5_))))))) (fun y5_ => Or.inr (Or.inr (Or.inr (Or.inr (Or.inr (Or.inr (Or.inl (y5_))))))))))))))), hfσ790 k_ j_ (fun w_ => h_ (w_.elim (fun x0_ => Or.inl (x0_)) (fun y0_ => y0_.elim (fun x1_ => Or.inr (Or.inl (x1_))) (fun y1_ => y1_.elim (fun x2_ => Or.inr (Or.inr (Or.inl (x2_)))) (fun y2_ => y2_.elim (fun x3_ => Or.inr (Or.inr (Or.inr (Or.inl (x3_))))) (fun y3_ => y3_.elim (fun x4_ => Or.inr (Or.inr (Or.inr (Or.inr (Or.inl (x4_)))))) (fun y4_ => y4_.elim (fun x5_ => Or.inr (Or.inr (Or.inr (Or.inr (Or.inr (Or.inl (x5_))))))) (fun y5_ => y5_.elim (fun x6_ => Or.inr (Or.inr (Or.inr (Or.inr (Or.inr (Or.inr (Or.inl (x6_)))))))) (fun y6_ => y6_.elim (fun x7_ => Or.inr (Or.inr (Or.inr (Or.inr (Or.inr (Or.inr (Or.inr (dk_wrr (lo := 144) (hi := 159) x7_ (by decide) (by decide))))))))) (fun y7_ => y7_.elim (fun x8_ => Or.inr (Or.inr (Or.inr (Or.inr (Or.inr (Or.inr (Or.inr (dk_wrr (lo := 144) (hi := 159) x8_ (by decide) (by decide))))))))) (fun y8_ => Or.inr (Or.inr (Or.inr (Or.inr (Or.inr (Or.inr (Or.inr (dk_wr (lo := 144) (hi := 159) y8_ (by decide))))))))))))))))))), hfσ779 k_ j_ (fun w_ => h_ (w_.elim (fun x0_ => Or.inr (Or.inr (Or.inl (x0_)))) (fun y0_ => y0_.elim (fun x1_ => Or.inr (Or.inr (Or.inr (Or.inl (x1_))))) (fun y1_ => y1_.elim (fun x2_ => Or.inr (Or.inr (Or.inr (Or.inr (Or.inl (x2_)))))) (fun y2_ => y2_.elim (fun x3_ => Or.inr (Or.inr (Or.inr (Or.inr (Or.inr (Or.inl (x3_))))))) (fun y3_ => Or.inr (Or.inr (Or.inr (Or.inr (Or.inr (Or.inr (Or.inl (y3_))))))))))))), hfσ769 k_ j_ (fun w_ => h_ (w_.elim (fun x0_ => Or.inl (x0_)) (fun y0_ => Or.inr (Or.inl (y0_)))))]), ⟨RX_rx hB gi807, fun a_ q_ => Or.inr (by have x_ := (gi807).1.2.2.1; have t_ := hT.2.2 q_; have y_ := H46.2.2.1; omega), by omega⟩⟩
            · skip
              have hz808 : σ790 141 3 = σ 141 3 := by rw [hfσ790 141 3 (by omega), hfσ779 141 3 (by omega), hfσ769 141 3 (by omega)]
              refine dk_cV (pc' := 86) (as := [(0, 0)]) hE lk_X11_301 (ct_X11_must l G hGd 0) dX11_readWorks_83 rfl is_141 rfl (by decide) (Nat.le_of_ble_eq_true rfl) ⟨rfl, (NX_tk (gi792).1), (by omega)⟩ rfl (fun r810 σ809 hr810 hor810 => ?_)
              obtain ⟨rfl, hfσ809, hpr810⟩ := hr810
              have gi811 : RX r σ779 σ809 := RX_tr gi792 hpr810 (fun k_ j_ h_ => hfσ809 k_ j_ (by omega))
              refine dk_aload_n (pc' := 87) hE dX11_readWorks_86 rfl rfl rfl ?_
              refine gf_11_11 (pc' := 90) (w := 144) hE fl_X11_20 dX11_readWorks_87 is_141 rfl rfl ?_
              refine dk_aload_n (pc' := 91) hE dX11_readWorks_90 rfl rfl rfl ?_
              refine gf_11_28 (pc' := 94) hE fl_X11_269 dX11_readWorks_91 is_141 rfl (fun v812 hv812 htv812 hbv812 => ?_)
              have hq812 : r = v812 := (show v812 = r by rw [hv812, hfσ809 141 28 (by omega), hfσ790 141 28 (by omega), hfσ779 141 28 (by omega), hfσ769 141 28 (by omega), hr]).symm
              subst hq812
              clear htv812 hbv812
              refine dk_dup2 (pc' := 95) hE dX11_readWorks_94 (show (0 : Nat) ≠ 3 by decide) (show (4 : Nat) ≠ 3 by decide) rfl ?_
              refine ga_72 (pc' := 96) hE dX11_readWorks_95 is_144 (by omega) rfl (fun v813 hv813 htv813 hbv813 => ?_)
              refine dk_iconst (pc' := 97) hE dX11_readWorks_96 (by decide) rfl ?_
              refine dk_iaddW (pc' := 98) hE dX11_readWorks_97 rfl (fun v814 hv814 _ => ?_)
              refine pa_72 (pc' := 99) hE dX11_readWorks_98 is_144 (by omega) trivial rfl (fun σ815 eσ815 => ?_)
              have hz816 : σ815 147 r = n + 1 := by rw [eσ815, dk_up_n (show ¬ (147 = 144 ∧ r = r) by omega), hfσ809 147 r (by omega), (hpr791.2.1).symm]
              have hz817 : σ815 145 r = w := by rw [eσ815, dk_up_n (show ¬ (145 = 144 ∧ r = r) by omega), hfσ809 145 r (by omega), hfσ790 145 r (by omega), hfσ779 145 r (by omega), hfσ769 145 r (by omega), hw]
              have hz818 : σ815 146 r = q + 1 := by rw [eσ815, dk_up_n (show ¬ (146 = 144 ∧ r = r) by omega), hfσ809 146 r (by omega), (hpr791.2.2).symm]
              have gi819 : RX r σ779 σ815 := RX_fr gi811 (fun k_ j_ h_ => by rw [eσ815, dk_up_n (show ¬ (k_ = 144 ∧ j_ = r) by omega)])
              exact dk_vret (st := []) hE hR dX11_readWorks_99 ⟨rfl, (fun k_ j_ h_ => by rw [eσ815, dk_up_n (show ¬ (k_ = 144 ∧ j_ = r) from fun q_ => h_ (Or.inr (Or.inr (Or.inr (Or.inr (Or.inr (Or.inr (Or.inr (dk_wr (lo := 144) (hi := 159) q_.1 (by decide)))))))))), hfσ809 k_ j_ (fun w_ => h_ (w_.elim (fun x0_ => Or.inl (x0_)) (fun y0_ => y0_.elim (fun x1_ => Or.inr (Or.inl (x1_))) (fun y1_ => y1_.elim (fun x2_ => Or.inr (Or.inr (Or.inl (x2_)))) (fun y2_ => y2_.elim (fun x3_ => Or.inr (Or.inr (Or.inr (Or.inl (x3_))))) (fun y3_ => y3_.elim (fun x4_ => Or.inr (Or.inr (Or.inr (Or.inr (Or.inl (x4_)))))) (fun y4_ => y4_.elim (fun x5_ => Or.inr (Or.inr (Or.inr (Or.inr (Or.inr (Or.inl (x5_))))))) (fun y5_ => Or.inr (Or.inr (Or.inr (Or.inr (Or.inr (Or.inr (Or.inl (y5_))))))))))))))), hfσ790 k_ j_ (fun w_ => h_ (w_.elim (fun x0_ => Or.inl (x0_)) (fun y0_ => y0_.elim (fun x1_ => Or.inr (Or.inl (x1_))) (fun y1_ => y1_.elim (fun x2_ => Or.inr (Or.inr (Or.inl (x2_)))) (fun y2_ => y2_.elim (fun x3_ => Or.inr (Or.inr (Or.inr (Or.inl (x3_))))) (fun y3_ => y3_.elim (fun x4_ => Or.inr (Or.inr (Or.inr (Or.inr (Or.inl (x4_)))))) (fun y4_ => y4_.elim (fun x5_ => Or.inr (Or.inr (Or.inr (Or.inr (Or.inr (Or.inl (x5_))))))) (fun y5_ => y5_.elim (fun x6_ => Or.inr (Or.inr (Or.inr (Or.inr (Or.inr (Or.inr (Or.inl (x6_)))))))) (fun y6_ => y6_.elim (fun x7_ => Or.inr (Or.inr (Or.inr (Or.inr (Or.inr (Or.inr (Or.inr (dk_wrr (lo := 144) (hi := 159) x7_ (by decide) (by decide))))))))) (fun y7_ => y7_.elim (fun x8_ => Or.inr (Or.inr (Or.inr (Or.inr (Or.inr (Or.inr (Or.inr (dk_wrr (lo := 144) (hi := 159) x8_ (by decide) (by decide))))))))) (fun y8_ => Or.inr (Or.inr (Or.inr (Or.inr (Or.inr (Or.inr (Or.inr (dk_wr (lo := 144) (hi := 159) y8_ (by decide))))))))))))))))))), hfσ779 k_ j_ (fun w_ => h_ (w_.elim (fun x0_ => Or.inr (Or.inr (Or.inl (x0_)))) (fun y0_ => y0_.elim (fun x1_ => Or.inr (Or.inr (Or.inr (Or.inl (x1_))))) (fun y1_ => y1_.elim (fun x2_ => Or.inr (Or.inr (Or.inr (Or.inr (Or.inl (x2_)))))) (fun y2_ => y2_.elim (fun x3_ => Or.inr (Or.inr (Or.inr (Or.inr (Or.inr (Or.inl (x3_))))))) (fun y3_ => Or.inr (Or.inr (Or.inr (Or.inr (Or.inr (Or.inr (Or.inl (y3_))))))))))))), hfσ769 k_ j_ (fun w_ => h_ (w_.elim (fun x0_ => Or.inl (x0_)) (fun y0_ => Or.inr (Or.inl (y0_)))))]), ⟨RX_rx hB gi819, fun a_ q_ => Or.inr (by have x_ := (gi819).1.2.2.1; have t_ := hT.2.2 q_; have y_ := H46.2.2.1; omega), by omega⟩⟩
          · skip
            refine dk_if_ne (tgt := 45) (pc' := 44) hE dX11_readWorks_41 (by decide) rfl (fun hc820 => absurd hc820 (by decide)) (fun hc820 => ?_)
            have hz821 : σ769 147 r = n := by rw [hfσ769 147 r (by omega), hn]
            have hz822 : σ769 145 r = w := by rw [hfσ769 145 r (by omega), hw]
            have hz823 : σ769 146 r = q := by rw [hfσ769 146 r (by omega), hq]
            exact dk_vret (st := []) hE hR dX11_readWorks_44 ⟨rfl, (fun k_ j_ h_ => by rw [hfσ769 k_ j_ (fun w_ => h_ (w_.elim (fun x0_ => Or.inl (x0_)) (fun y0_ => Or.inr (Or.inl (y0_)))))]), ⟨gi771, fun a_ q_ => Or.inl (by omega), by omega⟩⟩
        · skip
          refine dk_if_eq (tgt := 37) (pc' := 33) hE dX11_readWorks_30 (by decide) rfl (fun hc824 => ?_) (fun hc824 => absurd hc824 (by decide))
          refine dk_aload_n (pc' := 38) hE dX11_readWorks_37 rfl rfl rfl ?_
          refine dk_cV (pc' := 41) (as := []) hE lk_X11_250 (ct_X11_isGood l G hGd) dX11_readWorks_38 rfl is_141 rfl (by decide) (Nat.le_of_ble_eq_true rfl) rfl rfl (fun r826 σ825 hr826 hor826 => ?_)
          obtain ⟨v827, rfl, hfσ825, hpr826⟩ := hr826
          have hsσ825 : σ = σ825 := (funext (fun k => funext (fun j => hfσ825 k j not_false))).symm
          subst hsσ825
          rcases hpr826 with ⟨rfl, hpr826⟩ | ⟨rfl, hpr826⟩
          · skip
            refine dk_if_ne (tgt := 45) (pc' := 44) hE dX11_readWorks_41 (by decide) rfl (fun hc828 => ?_) (fun hc828 => absurd hc828 (by decide))
            refine dk_aload_n (pc' := 46) hE dX11_readWorks_45 rfl rfl rfl ?_
            refine dk_cV (pc' := 49) (as := []) hE lk_X11_254 (ct_X11_next l G hGd) dX11_readWorks_46 rfl is_141 rfl (by decide) (Nat.le_of_ble_eq_true rfl) ⟨rfl, ((NX_tk ((RX_of hT hTI)).1).2.1), (by omega)⟩ rfl (fun r830 σ829 hr830 hor830 => ?_)
            obtain ⟨rfl, hfσ829, hpr830⟩ := hr830
            have H46 := hpr830
            have gi831 : RX r σ σ829 := RX_y (RX_of hT hTI) hpr830 (fun k_ j_ h_ => hfσ829 k_ j_ (by omega))
            have hB : RX r σ σ829 := gi831
            have gi832 : RX r σ829 σ829 := RX_of (NX_tk hB.1) hB.2
            refine dk_iload_n (pc' := 50) hE dX11_readWorks_49 rfl rfl rfl ?_
            refine dk_if_eq (tgt := 60) (pc' := 53) hE dX11_readWorks_50 (by decide) rfl (fun hc833 => ?_) (fun hc833 => absurd hc833 (by decide))
            refine dk_iload_n (pc' := 61) hE dX11_readWorks_60 rfl rfl rfl ?_
            refine dk_if_eq (tgt := 71) (pc' := 64) hE dX11_readWorks_61 (by decide) rfl (fun hc834 => ?_) (fun hc834 => absurd hc834 (by decide))
            refine dk_aload_n (pc' := 72) hE dX11_readWorks_71 rfl rfl rfl ?_
            refine dk_iload_n (pc' := 73) hE dX11_readWorks_72 rfl rfl rfl ?_
            have hz835 : σ829 141 3 = σ 141 3 := by rw [hfσ829 141 3 (by omega)]
            have hz836 : σ829 141 28 = r := by rw [hfσ829 141 28 (by omega), hr]
            have hz837 : σ829 147 r = n := by rw [hfσ829 147 r (by omega), hn]
            have hz838 : σ829 145 r = w := by rw [hfσ829 145 r (by omega), hw]
            have hz839 : σ829 146 r = q := by rw [hfσ829 146 r (by omega), hq]
            refine dk_cV (pc' := 76) (as := [(0, 0)]) hE lk_X11_294 (ct_X11_readPart l G hGd 0 r n w q) dX11_readWorks_73 rfl is_141 rfl (by decide) (Nat.le_of_ble_eq_true rfl) ⟨rfl, (NX_tk (gi832).1), (by omega), (by omega), (by omega), (by omega), (by omega), (by omega), ((gi832).2), (by omega), (by omega), (by omega), (fun i hi => (have e_ : σ829 156 i = σ 156 i := (by rw [hfσ829 156 i (by omega)]); have f_ := ((hTI.2.1) (w - 1) (by omega) (by omega)).2; (by subst hi; rw [show 4 * r + (w - 1) = 4 * r + w - 1 by omega] at f_; omega))), (by omega)⟩ rfl (fun r841 σ840 hr841 hor841 => ?_)
            obtain ⟨rfl, hfσ840, hpr841⟩ := hr841
            have gi842 : RX r σ829 σ840 := RX_rx gi832 hpr841.1
            refine dk_aload_n (pc' := 77) hE dX11_readWorks_76 rfl rfl rfl ?_
            refine dk_aload_n (pc' := 78) hE dX11_readWorks_77 rfl rfl rfl ?_
            refine dk_bipush (pc' := 80) hE dX11_readWorks_78 (by decide) rfl ?_
            refine dk_cV (pc' := 83) (as := [(0, 59)]) hE lk_X11_298 (ct_X11_is l G hGd 59) dX11_readWorks_80 rfl is_141 rfl (by decide) (Nat.le_of_ble_eq_true rfl) rfl rfl (fun r844 σ843 hr844 hor844 => ?_)
            obtain ⟨v845, rfl, hfσ843, hpr844⟩ := hr844
            have hsσ843 : σ840 = σ843 := (funext (fun k => funext (fun j => hfσ843 k j not_false))).symm
            subst hsσ843
            rcases hpr844 with ⟨rfl, hpr844⟩ | rfl
            · skip
              have hz846 : σ840 141 3 = σ 141 3 := by rw [hfσ840 141 3 (by omega), hfσ829 141 3 (by omega)]
              refine dk_cV (pc' := 86) (as := [(0, 1)]) hE lk_X11_301 (ct_X11_must l G hGd 1) dX11_readWorks_83 rfl is_141 rfl (by decide) (Nat.le_of_ble_eq_true rfl) ⟨rfl, (NX_tk (gi842).1), (by omega)⟩ rfl (fun r848 σ847 hr848 hor848 => ?_)
              obtain ⟨rfl, hfσ847, hpr848⟩ := hr848
              have gi849 : RX r σ829 σ847 := RX_tr gi842 hpr848 (fun k_ j_ h_ => hfσ847 k_ j_ (by omega))
              refine dk_aload_n (pc' := 87) hE dX11_readWorks_86 rfl rfl rfl ?_
              refine gf_11_11 (pc' := 90) (w := 144) hE fl_X11_20 dX11_readWorks_87 is_141 rfl rfl ?_
              refine dk_aload_n (pc' := 91) hE dX11_readWorks_90 rfl rfl rfl ?_
              refine gf_11_28 (pc' := 94) hE fl_X11_269 dX11_readWorks_91 is_141 rfl (fun v850 hv850 htv850 hbv850 => ?_)
              have hq850 : r = v850 := (show v850 = r by rw [hv850, hfσ847 141 28 (by omega), hfσ840 141 28 (by omega), hfσ829 141 28 (by omega), hr]).symm
              subst hq850
              clear htv850 hbv850
              refine dk_dup2 (pc' := 95) hE dX11_readWorks_94 (show (0 : Nat) ≠ 3 by decide) (show (4 : Nat) ≠ 3 by decide) rfl ?_
              refine ga_72 (pc' := 96) hE dX11_readWorks_95 is_144 (by omega) rfl (fun v851 hv851 htv851 hbv851 => ?_)
              refine dk_iconst (pc' := 97) hE dX11_readWorks_96 (by decide) rfl ?_
              refine dk_iaddW (pc' := 98) hE dX11_readWorks_97 rfl (fun v852 hv852 _ => ?_)
              refine pa_72 (pc' := 99) hE dX11_readWorks_98 is_144 (by omega) trivial rfl (fun σ853 eσ853 => ?_)
              have hz854 : σ853 147 r = n + 1 := by rw [eσ853, dk_up_n (show ¬ (147 = 144 ∧ r = r) by omega), hfσ847 147 r (by omega), (hpr841.2.1).symm]
              have hz855 : σ853 145 r = w := by rw [eσ853, dk_up_n (show ¬ (145 = 144 ∧ r = r) by omega), hfσ847 145 r (by omega), hfσ840 145 r (by omega), hfσ829 145 r (by omega), hw]
              have hz856 : σ853 146 r = q + 1 := by rw [eσ853, dk_up_n (show ¬ (146 = 144 ∧ r = r) by omega), hfσ847 146 r (by omega), (hpr841.2.2).symm]
              have gi857 : RX r σ829 σ853 := RX_fr gi849 (fun k_ j_ h_ => by rw [eσ853, dk_up_n (show ¬ (k_ = 144 ∧ j_ = r) by omega)])
              exact dk_vret (st := []) hE hR dX11_readWorks_99 ⟨rfl, (fun k_ j_ h_ => by rw [eσ853, dk_up_n (show ¬ (k_ = 144 ∧ j_ = r) from fun q_ => h_ (Or.inr (Or.inr (Or.inr (Or.inr (Or.inr (Or.inr (Or.inr (dk_wr (lo := 144) (hi := 159) q_.1 (by decide)))))))))), hfσ847 k_ j_ (fun w_ => h_ (w_.elim (fun x0_ => Or.inl (x0_)) (fun y0_ => y0_.elim (fun x1_ => Or.inr (Or.inl (x1_))) (fun y1_ => y1_.elim (fun x2_ => Or.inr (Or.inr (Or.inl (x2_)))) (fun y2_ => y2_.elim (fun x3_ => Or.inr (Or.inr (Or.inr (Or.inl (x3_))))) (fun y3_ => y3_.elim (fun x4_ => Or.inr (Or.inr (Or.inr (Or.inr (Or.inl (x4_)))))) (fun y4_ => y4_.elim (fun x5_ => Or.inr (Or.inr (Or.inr (Or.inr (Or.inr (Or.inl (x5_))))))) (fun y5_ => Or.inr (Or.inr (Or.inr (Or.inr (Or.inr (Or.inr (Or.inl (y5_))))))))))))))), hfσ840 k_ j_ (fun w_ => h_ (w_.elim (fun x0_ => Or.inl (x0_)) (fun y0_ => y0_.elim (fun x1_ => Or.inr (Or.inl (x1_))) (fun y1_ => y1_.elim (fun x2_ => Or.inr (Or.inr (Or.inl (x2_)))) (fun y2_ => y2_.elim (fun x3_ => Or.inr (Or.inr (Or.inr (Or.inl (x3_))))) (fun y3_ => y3_.elim (fun x4_ => Or.inr (Or.inr (Or.inr (Or.inr (Or.inl (x4_)))))) (fun y4_ => y4_.elim (fun x5_ => Or.inr (Or.inr (Or.inr (Or.inr (Or.inr (Or.inl (x5_))))))) (fun y5_ => y5_.elim (fun x6_ => Or.inr (Or.inr (Or.inr (Or.inr (Or.inr (Or.inr (Or.inl (x6_)))))))) (fun y6_ => y6_.elim (fun x7_ => Or.inr (Or.inr (Or.inr (Or.inr (Or.inr (Or.inr (Or.inr (dk_wrr (lo := 144) (hi := 159) x7_ (by decide) (by decide))))))))) (fun y7_ => y7_.elim (fun x8_ => Or.inr (Or.inr (Or.inr (Or.inr (Or.inr (Or.inr (Or.inr (dk_wrr (lo := 144) (hi := 159) x8_ (by decide) (by decide))))))))) (fun y8_ => Or.inr (Or.inr (Or.inr (Or.inr (Or.inr (Or.inr (Or.inr (dk_wr (lo := 144) (hi := 159) y8_ (by decide))))))))))))))))))), hfσ829 k_ j_ (fun w_ => h_ (w_.elim (fun x0_ => Or.inr (Or.inr (Or.inl (x0_)))) (fun y0_ => y0_.elim (fun x1_ => Or.inr (Or.inr (Or.inr (Or.inl (x1_))))) (fun y1_ => y1_.elim (fun x2_ => Or.inr (Or.inr (Or.inr (Or.inr (Or.inl (x2_)))))) (fun y2_ => y2_.elim (fun x3_ => Or.inr (Or.inr (Or.inr (Or.inr (Or.inr (Or.inl (x3_))))))) (fun y3_ => Or.inr (Or.inr (Or.inr (Or.inr (Or.inr (Or.inr (Or.inl (y3_)))))))))))))]), ⟨RX_rx hB gi857, fun a_ q_ => Or.inr (by have x_ := (gi857).1.2.2.1; have t_ := hT.2.2 q_; have y_ := H46.2.2.1; omega), by omega⟩⟩
            · skip
              have hz858 : σ840 141 3 = σ 141 3 := by rw [hfσ840 141 3 (by omega), hfσ829 141 3 (by omega)]
              refine dk_cV (pc' := 86) (as := [(0, 0)]) hE lk_X11_301 (ct_X11_must l G hGd 0) dX11_readWorks_83 rfl is_141 rfl (by decide) (Nat.le_of_ble_eq_true rfl) ⟨rfl, (NX_tk (gi842).1), (by omega)⟩ rfl (fun r860 σ859 hr860 hor860 => ?_)
              obtain ⟨rfl, hfσ859, hpr860⟩ := hr860
              have gi861 : RX r σ829 σ859 := RX_tr gi842 hpr860 (fun k_ j_ h_ => hfσ859 k_ j_ (by omega))
              refine dk_aload_n (pc' := 87) hE dX11_readWorks_86 rfl rfl rfl ?_
              refine gf_11_11 (pc' := 90) (w := 144) hE fl_X11_20 dX11_readWorks_87 is_141 rfl rfl ?_
              refine dk_aload_n (pc' := 91) hE dX11_readWorks_90 rfl rfl rfl ?_
              refine gf_11_28 (pc' := 94) hE fl_X11_269 dX11_readWorks_91 is_141 rfl (fun v862 hv862 htv862 hbv862 => ?_)
              have hq862 : r = v862 := (show v862 = r by rw [hv862, hfσ859 141 28 (by omega), hfσ840 141 28 (by omega), hfσ829 141 28 (by omega), hr]).symm
              subst hq862
              clear htv862 hbv862
              refine dk_dup2 (pc' := 95) hE dX11_readWorks_94 (show (0 : Nat) ≠ 3 by decide) (show (4 : Nat) ≠ 3 by decide) rfl ?_
              refine ga_72 (pc' := 96) hE dX11_readWorks_95 is_144 (by omega) rfl (fun v863 hv863 htv863 hbv863 => ?_)
              refine dk_iconst (pc' := 97) hE dX11_readWorks_96 (by decide) rfl ?_
              refine dk_iaddW (pc' := 98) hE dX11_readWorks_97 rfl (fun v864 hv864 _ => ?_)
              refine pa_72 (pc' := 99) hE dX11_readWorks_98 is_144 (by omega) trivial rfl (fun σ865 eσ865 => ?_)
              have hz866 : σ865 147 r = n + 1 := by rw [eσ865, dk_up_n (show ¬ (147 = 144 ∧ r = r) by omega), hfσ859 147 r (by omega), (hpr841.2.1).symm]
              have hz867 : σ865 145 r = w := by rw [eσ865, dk_up_n (show ¬ (145 = 144 ∧ r = r) by omega), hfσ859 145 r (by omega), hfσ840 145 r (by omega), hfσ829 145 r (by omega), hw]
              have hz868 : σ865 146 r = q + 1 := by rw [eσ865, dk_up_n (show ¬ (146 = 144 ∧ r = r) by omega), hfσ859 146 r (by omega), (hpr841.2.2).symm]
              have gi869 : RX r σ829 σ865 := RX_fr gi861 (fun k_ j_ h_ => by rw [eσ865, dk_up_n (show ¬ (k_ = 144 ∧ j_ = r) by omega)])
              exact dk_vret (st := []) hE hR dX11_readWorks_99 ⟨rfl, (fun k_ j_ h_ => by rw [eσ865, dk_up_n (show ¬ (k_ = 144 ∧ j_ = r) from fun q_ => h_ (Or.inr (Or.inr (Or.inr (Or.inr (Or.inr (Or.inr (Or.inr (dk_wr (lo := 144) (hi := 159) q_.1 (by decide)))))))))), hfσ859 k_ j_ (fun w_ => h_ (w_.elim (fun x0_ => Or.inl (x0_)) (fun y0_ => y0_.elim (fun x1_ => Or.inr (Or.inl (x1_))) (fun y1_ => y1_.elim (fun x2_ => Or.inr (Or.inr (Or.inl (x2_)))) (fun y2_ => y2_.elim (fun x3_ => Or.inr (Or.inr (Or.inr (Or.inl (x3_))))) (fun y3_ => y3_.elim (fun x4_ => Or.inr (Or.inr (Or.inr (Or.inr (Or.inl (x4_)))))) (fun y4_ => y4_.elim (fun x5_ => Or.inr (Or.inr (Or.inr (Or.inr (Or.inr (Or.inl (x5_))))))) (fun y5_ => Or.inr (Or.inr (Or.inr (Or.inr (Or.inr (Or.inr (Or.inl (y5_))))))))))))))), hfσ840 k_ j_ (fun w_ => h_ (w_.elim (fun x0_ => Or.inl (x0_)) (fun y0_ => y0_.elim (fun x1_ => Or.inr (Or.inl (x1_))) (fun y1_ => y1_.elim (fun x2_ => Or.inr (Or.inr (Or.inl (x2_)))) (fun y2_ => y2_.elim (fun x3_ => Or.inr (Or.inr (Or.inr (Or.inl (x3_))))) (fun y3_ => y3_.elim (fun x4_ => Or.inr (Or.inr (Or.inr (Or.inr (Or.inl (x4_)))))) (fun y4_ => y4_.elim (fun x5_ => Or.inr (Or.inr (Or.inr (Or.inr (Or.inr (Or.inl (x5_))))))) (fun y5_ => y5_.elim (fun x6_ => Or.inr (Or.inr (Or.inr (Or.inr (Or.inr (Or.inr (Or.inl (x6_)))))))) (fun y6_ => y6_.elim (fun x7_ => Or.inr (Or.inr (Or.inr (Or.inr (Or.inr (Or.inr (Or.inr (dk_wrr (lo := 144) (hi := 159) x7_ (by decide) (by decide))))))))) (fun y7_ => y7_.elim (fun x8_ => Or.inr (Or.inr (Or.inr (Or.inr (Or.inr (Or.inr (Or.inr (dk_wrr (lo := 144) (hi := 159) x8_ (by decide) (by decide))))))))) (fun y8_ => Or.inr (Or.inr (Or.inr (Or.inr (Or.inr (Or.inr (Or.inr (dk_wr (lo := 144) (hi := 159) y8_ (by decide))))))))))))))))))), hfσ829 k_ j_ (fun w_ => h_ (w_.elim (fun x0_ => Or.inr (Or.inr (Or.inl (x0_)))) (fun y0_ => y0_.elim (fun x1_ => Or.inr (Or.inr (Or.inr (Or.inl (x1_))))) (fun y1_ => y1_.elim (fun x2_ => Or.inr (Or.inr (Or.inr (Or.inr (Or.inl (x2_)))))) (fun y2_ => y2_.elim (fun x3_ => Or.inr (Or.inr (Or.inr (Or.inr (Or.inr (Or.inl (x3_))))))) (fun y3_ => Or.inr (Or.inr (Or.inr (Or.inr (Or.inr (Or.inr (Or.inl (y3_)))))))))))))]), ⟨RX_rx hB gi869, fun a_ q_ => Or.inr (by have x_ := (gi869).1.2.2.1; have t_ := hT.2.2 q_; have y_ := H46.2.2.1; omega), by omega⟩⟩
          · skip
            refine dk_if_ne (tgt := 45) (pc' := 44) hE dX11_readWorks_41 (by decide) rfl (fun hc870 => absurd hc870 (by decide)) (fun hc870 => ?_)
            have hz871 : σ 147 r = n := by rw [hn]
            have hz872 : σ 145 r = w := by rw [hw]
            have hz873 : σ 146 r = q := by rw [hq]
            exact dk_vret (st := []) hE hR dX11_readWorks_44 ⟨rfl, (fun k_ j_ h_ => rfl), ⟨(RX_of hT hTI), fun a_ q_ => Or.inl (by omega), by omega⟩⟩
set_option maxHeartbeats 4000000 in
set_option maxRecDepth 20000 in
theorem ct_X11_works (l : Launch) (G : dkG) (hGd : dk_Gd G) (r : Int) : dk_Ct l G dk_Ty yX11_works cX11_works 2 (some .int) 7 190 190 (fun av σ => av = [(4, 141)] ∧ (MI σ) ∧ (r = 1 - σ 141 27)) (fun _ σ r_ σ' => ∃ z : Int, r_ = some (0, z) ∧ (∀ k_ j_ : Int, ¬ ((k_ = 141 ∧ j_ = 2) ∨ (k_ = 141 ∧ j_ = 3) ∨ (k_ = 141 ∧ j_ = 4) ∨ (k_ = 141 ∧ j_ = 5) ∨ (k_ = 141 ∧ j_ = 6) ∨ (k_ = 141 ∧ j_ = 7) ∨ (k_ = 141 ∧ j_ = 8) ∨ (k_ = 141 ∧ j_ = 9) ∨ (k_ = 141 ∧ j_ = 10) ∨ (k_ = 141 ∧ j_ = 27) ∨ (k_ = 141 ∧ j_ = 28) ∨ (k_ = 141 ∧ j_ = 53) ∨ (k_ = 141 ∧ j_ = 79) ∨ (143 ≤ k_ ∧ k_ ≤ 159)) → σ' k_ j_ = σ k_ j_) ∧ (MI σ')) := by
  refine dk_enter hGd (by decide) (fun av σ hpre hok => ?_)
  obtain ⟨rfl, hG, hb⟩ := hpre
  refine ⟨Nat.le_of_ble_eq_true rfl, fun E hE hR _ => ?_⟩
  show dk_PJ E 0 [(4, 141), (9, 0)] [] 190 σ
  refine dk_aload_n (pc' := 1) hE dX11_works_0 rfl rfl rfl ?_
  refine dk_cV (pc' := 4) (as := []) hE lk_X11_263 (ct_X11_takeTape l G hGd) dX11_works_1 rfl is_141 rfl (by decide) (Nat.le_of_ble_eq_true rfl) rfl rfl (fun r2 σ1 hr2 hor2 => ?_)
  obtain ⟨rfl, hfσ1, hpr2⟩ := hr2
  refine dk_aload_n (pc' := 5) hE dX11_works_4 rfl rfl rfl ?_
  refine dk_iconst (pc' := 6) hE dX11_works_5 (by decide) rfl ?_
  refine dk_aload_n (pc' := 7) hE dX11_works_6 rfl rfl rfl ?_
  refine gf_11_27 (pc' := 10) hE fl_X11_266 dX11_works_7 is_141 rfl (fun v3 hv3 htv3 hbv3 => ?_)
  have hq3 : v3 = σ 141 27 := by rw [hv3, hfσ1 141 27 (by omega)]
  obtain ⟨v4, hv4⟩ : ∃ z : Int, z = 1 - v3 := ⟨_, rfl⟩
  refine dk_isub (pc' := 11) hE dX11_works_10 hv4.symm (by omega) rfl ?_
  have hrnv4 : r = v4 := by omega
  subst hrnv4
  refine pf_11_28 (pc' := 14) hE fl_X11_269 dX11_works_11 is_141 (by omega) rfl (fun σ5 eσ5 => ?_)
  refine dk_aload_n (pc' := 15) hE dX11_works_14 rfl rfl rfl ?_
  refine gf_11_11 (pc' := 18) (w := 144) hE fl_X11_20 dX11_works_15 is_141 rfl rfl ?_
  refine dk_aload_n (pc' := 19) hE dX11_works_18 rfl rfl rfl ?_
  refine gf_11_28 (pc' := 22) hE fl_X11_269 dX11_works_19 is_141 rfl (fun v6 hv6 htv6 hbv6 => ?_)
  have hq6 : r = v6 := (show v6 = r by rw [hv6, eσ5, dk_up_s]).symm
  subst hq6
  clear htv6 hbv6
  refine dk_iconst (pc' := 23) hE dX11_works_22 (by decide) rfl ?_
  refine pa_72 (pc' := 24) hE dX11_works_23 is_144 (by omega) trivial rfl (fun σ7 eσ7 => ?_)
  refine dk_aload_n (pc' := 25) hE dX11_works_24 rfl rfl rfl ?_
  refine gf_11_12 (pc' := 28) (w := 145) hE fl_X11_24 dX11_works_25 is_141 rfl rfl ?_
  refine dk_aload_n (pc' := 29) hE dX11_works_28 rfl rfl rfl ?_
  refine gf_11_28 (pc' := 32) hE fl_X11_269 dX11_works_29 is_141 rfl (fun v8 hv8 htv8 hbv8 => ?_)
  have hq8 : r = v8 := (show v8 = r by rw [hv8, eσ7, dk_up_n (show ¬ (141 = 144 ∧ 28 = r) by omega), hv6]).symm
  subst hq8
  clear htv8 hbv8
  refine dk_iconst (pc' := 33) hE dX11_works_32 (by decide) rfl ?_
  refine pa_73 (pc' := 34) hE dX11_works_33 is_145 (by omega) (by omega) rfl (fun σ9 eσ9 => ?_)
  refine dk_aload_n (pc' := 35) hE dX11_works_34 rfl rfl rfl ?_
  refine gf_11_13 (pc' := 38) (w := 146) hE fl_X11_27 dX11_works_35 is_141 rfl rfl ?_
  refine dk_aload_n (pc' := 39) hE dX11_works_38 rfl rfl rfl ?_
  refine gf_11_28 (pc' := 42) hE fl_X11_269 dX11_works_39 is_141 rfl (fun v10 hv10 htv10 hbv10 => ?_)
  have hq10 : r = v10 := (show v10 = r by rw [hv10, eσ9, dk_up_n (show ¬ (141 = 145 ∧ 28 = r) by omega), hv8]).symm
  subst hq10
  clear htv10 hbv10
  refine dk_iconst (pc' := 43) hE dX11_works_42 (by decide) rfl ?_
  refine pa_74 (pc' := 44) hE dX11_works_43 is_146 (by omega) (by omega) rfl (fun σ11 eσ11 => ?_)
  refine dk_aload_n (pc' := 45) hE dX11_works_44 rfl rfl rfl ?_
  refine gf_11_14 (pc' := 48) (w := 147) hE fl_X11_30 dX11_works_45 is_141 rfl rfl ?_
  refine dk_aload_n (pc' := 49) hE dX11_works_48 rfl rfl rfl ?_
  refine gf_11_28 (pc' := 52) hE fl_X11_269 dX11_works_49 is_141 rfl (fun v12 hv12 htv12 hbv12 => ?_)
  have hq12 : r = v12 := (show v12 = r by rw [hv12, eσ11, dk_up_n (show ¬ (141 = 146 ∧ 28 = r) by omega), hv10]).symm
  subst hq12
  clear htv12 hbv12
  refine dk_iconst (pc' := 53) hE dX11_works_52 (by decide) rfl ?_
  refine pa_75 (pc' := 54) hE dX11_works_53 is_147 (by omega) (by omega) rfl (fun σ13 eσ13 => ?_)
  refine dk_aload_n (pc' := 55) hE dX11_works_54 rfl rfl rfl ?_
  refine gf_11_25 (pc' := 58) (w := 158) hE fl_X11_64 dX11_works_55 is_141 rfl rfl ?_
  refine dk_aload_n (pc' := 59) hE dX11_works_58 rfl rfl rfl ?_
  refine gf_11_28 (pc' := 62) hE fl_X11_269 dX11_works_59 is_141 rfl (fun v14 hv14 htv14 hbv14 => ?_)
  have hq14 : r = v14 := (show v14 = r by rw [hv14, eσ13, dk_up_n (show ¬ (141 = 147 ∧ 28 = r) by omega), hv12]).symm
  subst hq14
  clear htv14 hbv14
  refine dk_iconst (pc' := 63) hE dX11_works_62 (by decide) rfl ?_
  refine pa_86 (pc' := 64) hE dX11_works_63 is_158 (by omega) (by omega) trivial rfl (fun σ15 eσ15 => ?_)
  refine dk_aload_n (pc' := 65) hE dX11_works_64 rfl rfl rfl ?_
  refine gf_11_15 (pc' := 68) (w := 148) hE fl_X11_33 dX11_works_65 is_141 rfl rfl ?_
  refine dk_aload_n (pc' := 69) hE dX11_works_68 rfl rfl rfl ?_
  refine gf_11_28 (pc' := 72) hE fl_X11_269 dX11_works_69 is_141 rfl (fun v16 hv16 htv16 hbv16 => ?_)
  have hq16 : r = v16 := (show v16 = r by rw [hv16, eσ15, dk_up_n (show ¬ (141 = 158 ∧ 28 = r) by omega), hv14]).symm
  subst hq16
  clear htv16 hbv16
  refine dk_bipush (pc' := 74) hE dX11_works_72 (by decide) rfl ?_
  refine pa_76 (pc' := 75) hE dX11_works_74 is_148 (by omega) trivial rfl (fun σ17 eσ17 => ?_)
  refine dk_aload_n (pc' := 76) hE dX11_works_75 rfl rfl rfl ?_
  refine gf_11_16 (pc' := 79) (w := 149) hE fl_X11_36 dX11_works_76 is_141 rfl rfl ?_
  refine dk_aload_n (pc' := 80) hE dX11_works_79 rfl rfl rfl ?_
  refine gf_11_28 (pc' := 83) hE fl_X11_269 dX11_works_80 is_141 rfl (fun v18 hv18 htv18 hbv18 => ?_)
  have hq18 : r = v18 := (show v18 = r by rw [hv18, eσ17, dk_up_n (show ¬ (141 = 148 ∧ 28 = r) by omega), hv16]).symm
  subst hq18
  clear htv18 hbv18
  refine dk_bipush (pc' := 85) hE dX11_works_83 (by decide) rfl ?_
  refine pa_77 (pc' := 86) hE dX11_works_85 is_149 (by omega) trivial rfl (fun σ19 eσ19 => ?_)
  refine dk_aload_n (pc' := 87) hE dX11_works_86 rfl rfl rfl ?_
  refine gf_11_17 (pc' := 90) (w := 150) hE fl_X11_39 dX11_works_87 is_141 rfl rfl ?_
  refine dk_aload_n (pc' := 91) hE dX11_works_90 rfl rfl rfl ?_
  refine gf_11_28 (pc' := 94) hE fl_X11_269 dX11_works_91 is_141 rfl (fun v20 hv20 htv20 hbv20 => ?_)
  have hq20 : r = v20 := (show v20 = r by rw [hv20, eσ19, dk_up_n (show ¬ (141 = 149 ∧ 28 = r) by omega), hv18]).symm
  subst hq20
  clear htv20 hbv20
  refine dk_iconst (pc' := 95) hE dX11_works_94 (by decide) rfl ?_
  refine pa_78 (pc' := 96) hE dX11_works_95 is_150 (by omega) (by omega) rfl (fun σ21 eσ21 => ?_)
  refine dk_iconst (pc' := 97) hE dX11_works_96 (by decide) rfl ?_
  refine dk_istore_n (pc' := 98) (ls' := [(4, 141), (0, 0)]) hE dX11_works_97 rfl rfl (by decide) rfl ?_
  have lp98 : ∀ (N_ : Nat) (i : Int) (σ98c : dkS), (2147483648 - i).toNat < N_ → ((∀ k_ j_ : Int, ¬ (k_ = 156) → σ98c k_ j_ = σ21 k_ j_)) → (0 ≤ i) → (∀ w_ : Int, 0 ≤ w_ → w_ < i → σ98c 156 (4 * r + w_) = 0) → dk_PJ E 98 [(4, 141), (0, i)] [] 190 σ98c := by
    intro N98
    induction N98 with
    | zero => intro i σ98c hm; exact absurd hm (Nat.not_lt_zero _)
    | succ N98 ih98 =>
      intro i σ98c hm98 hF98 hi0 h156
      refine dk_iload_n (pc' := 99) hE dX11_works_98 rfl rfl rfl ?_
      refine dk_iconst (pc' := 100) hE dX11_works_99 (by decide) rfl ?_
      refine dk_icmp_ge (tgt := 123) (pc' := 103) hE dX11_works_100 (by decide) rfl (fun hc22 => ?_) (fun hc22 => ?_)
      · skip
        have hz23 : σ98c 146 r = 0 := by rw [hF98 146 r (by omega), eσ21, dk_up_n (show ¬ (146 = 150 ∧ r = r) by omega), eσ19, dk_up_n (show ¬ (146 = 149 ∧ r = r) by omega), eσ17, dk_up_n (show ¬ (146 = 148 ∧ r = r) by omega), eσ15, dk_up_n (show ¬ (146 = 158 ∧ r = r) by omega), eσ13, dk_up_n (show ¬ (146 = 147 ∧ r = r) by omega), eσ11, dk_up_s]
        have gi24 : TI r σ98c := TI_init hG rfl hb (by omega) (fun k_ j_ h_ n_ => by rw [hF98 k_ j_ (by omega), eσ21, dk_up_n (show ¬ (k_ = 150 ∧ j_ = r) by omega), eσ19, dk_up_n (show ¬ (k_ = 149 ∧ j_ = r) by omega), eσ17, dk_up_n (show ¬ (k_ = 148 ∧ j_ = r) by omega), eσ15, dk_up_n (show ¬ (k_ = 158 ∧ j_ = r) by omega), eσ13, dk_up_n (show ¬ (k_ = 147 ∧ j_ = r) by omega), eσ11, dk_up_n (show ¬ (k_ = 146 ∧ j_ = r) by omega), eσ9, dk_up_n (show ¬ (k_ = 145 ∧ j_ = r) by omega), eσ7, dk_up_n (show ¬ (k_ = 144 ∧ j_ = r) by omega), eσ5, dk_up_n (show ¬ (k_ = 141 ∧ j_ = 28) by omega), hfσ1 k_ j_ (by omega)]) (by omega) (fun w_ a_ c_ => h156 w_ a_ (by omega))
        refine dk_aload_n (pc' := 124) hE dX11_works_123 rfl rfl rfl ?_
        have hz25 : σ98c 141 7 = 0 := by rw [hF98 141 7 (by omega), eσ21, dk_up_n (show ¬ (141 = 150 ∧ 7 = r) by omega), eσ19, dk_up_n (show ¬ (141 = 149 ∧ 7 = r) by omega), eσ17, dk_up_n (show ¬ (141 = 148 ∧ 7 = r) by omega), eσ15, dk_up_n (show ¬ (141 = 158 ∧ 7 = r) by omega), eσ13, dk_up_n (show ¬ (141 = 147 ∧ 7 = r) by omega), eσ11, dk_up_n (show ¬ (141 = 146 ∧ 7 = r) by omega), eσ9, dk_up_n (show ¬ (141 = 145 ∧ 7 = r) by omega), eσ7, dk_up_n (show ¬ (141 = 144 ∧ 7 = r) by omega), eσ5, dk_up_n (show ¬ (141 = 141 ∧ 7 = 28) by omega), (hpr2.2.1).symm]
        have hz26 : σ98c 141 3 = σ 141 2 := by rw [hF98 141 3 (by omega), eσ21, dk_up_n (show ¬ (141 = 150 ∧ 3 = r) by omega), eσ19, dk_up_n (show ¬ (141 = 149 ∧ 3 = r) by omega), eσ17, dk_up_n (show ¬ (141 = 148 ∧ 3 = r) by omega), eσ15, dk_up_n (show ¬ (141 = 158 ∧ 3 = r) by omega), eσ13, dk_up_n (show ¬ (141 = 147 ∧ 3 = r) by omega), eσ11, dk_up_n (show ¬ (141 = 146 ∧ 3 = r) by omega), eσ9, dk_up_n (show ¬ (141 = 145 ∧ 3 = r) by omega), eσ7, dk_up_n (show ¬ (141 = 144 ∧ 3 = r) by omega), eσ5, dk_up_n (show ¬ (141 = 141 ∧ 3 = 28) by omega), (hpr2.1).symm]
        have hz27 : σ98c 141 3 = σ 141 2 := by rw [hF98 141 3 (by omega), eσ21, dk_up_n (show ¬ (141 = 150 ∧ 3 = r) by omega), eσ19, dk_up_n (show ¬ (141 = 149 ∧ 3 = r) by omega), eσ17, dk_up_n (show ¬ (141 = 148 ∧ 3 = r) by omega), eσ15, dk_up_n (show ¬ (141 = 158 ∧ 3 = r) by omega), eσ13, dk_up_n (show ¬ (141 = 147 ∧ 3 = r) by omega), eσ11, dk_up_n (show ¬ (141 = 146 ∧ 3 = r) by omega), eσ9, dk_up_n (show ¬ (141 = 145 ∧ 3 = r) by omega), eσ7, dk_up_n (show ¬ (141 = 144 ∧ 3 = r) by omega), eσ5, dk_up_n (show ¬ (141 = 141 ∧ 3 = 28) by omega), (hpr2.1).symm]
        refine dk_cV (pc' := 127) (as := []) hE lk_X11_254 (ct_X11_next l G hGd) dX11_works_124 rfl is_141 rfl (by decide) (Nat.le_of_ble_eq_true rfl) ⟨rfl, (by omega), (by omega)⟩ rfl (fun r29 σ28 hr29 hor29 => ?_)
        obtain ⟨rfl, hfσ28, hpr29⟩ := hr29
        have H124 := hpr29
        have h3_ := H124.1
        have lp127 : ∀ (N_ : Nat) (σ127c : dkS), (6 * (1402 - σ127c 141 6) - σ127c 141 4).toNat < N_ → ((∀ k_ j_ : Int, ¬ ((k_ = 141 ∧ j_ = 4) ∨ (k_ = 141 ∧ j_ = 5) ∨ (k_ = 141 ∧ j_ = 6) ∨ (k_ = 141 ∧ j_ = 7) ∨ (k_ = 141 ∧ j_ = 8) ∨ (k_ = 141 ∧ j_ = 9) ∨ (k_ = 141 ∧ j_ = 10) ∨ (144 ≤ k_ ∧ k_ ≤ 159)) → σ127c k_ j_ = σ28 k_ j_)) → (TI r σ127c) → (TK σ127c) → (σ127c 141 3 ≤ 1400) → (σ127c 141 28 = r) → (σ127c 147 r = σ127c 145 r + σ127c 146 r ∧ 0 ≤ σ127c 145 r ∧ σ127c 145 r ≤ 4 ∧ 0 ≤ σ127c 146 r ∧ σ127c 146 r ≤ 12) → dk_PJ E 127 [(4, 141), (0, i)] [] 190 σ127c := by
          intro N127
          induction N127 with
          | zero => intro  σ127c hm; exact absurd hm (Nat.not_lt_zero _)
          | succ N127 ih127 =>
            intro  σ127c hm127 hF127 hG127 hTk h43 hrb hnm
            have hk1 := hTk.1
            have hk2 := hTk.2.1
            refine dk_aload_n (pc' := 128) hE dX11_works_127 rfl rfl rfl ?_
            refine dk_cV (pc' := 131) (as := []) hE lk_X11_250 (ct_X11_isGood l G hGd) dX11_works_128 rfl is_141 rfl (by decide) (Nat.le_of_ble_eq_true rfl) rfl rfl (fun r31 σ30 hr31 hor31 => ?_)
            obtain ⟨v32, rfl, hfσ30, hpr31⟩ := hr31
            have hsσ30 : σ127c = σ30 := (funext (fun k => funext (fun j => hfσ30 k j not_false))).symm
            subst hsσ30
            rcases hpr31 with ⟨rfl, hpr31⟩ | ⟨rfl, hpr31⟩
            · skip
              refine dk_if_eq (tgt := 148) (pc' := 134) hE dX11_works_131 (by decide) rfl (fun hc33 => absurd hc33 (by decide)) (fun hc33 => ?_)
              refine dk_aload_n (pc' := 135) hE dX11_works_134 rfl rfl rfl ?_
              refine gf_11_8 (pc' := 138) hE fl_X11_222 dX11_works_135 is_141 rfl (fun v34 hv34 htv34 hbv34 => ?_)
              refine dk_if_eq (tgt := 148) (pc' := 141) hE dX11_works_138 (by decide) rfl (fun hc35 => ?_) (fun hc35 => ?_)
              · skip
                refine dk_aload_n (pc' := 149) hE dX11_works_148 rfl rfl rfl ?_
                refine dk_cV (pc' := 152) (as := []) hE lk_X11_250 (ct_X11_isGood l G hGd) dX11_works_149 rfl is_141 rfl (by decide) (Nat.le_of_ble_eq_true rfl) rfl rfl (fun r37 σ36 hr37 hor37 => ?_)
                obtain ⟨v38, rfl, hfσ36, hpr37⟩ := hr37
                have hsσ36 : σ127c = σ36 := (funext (fun k => funext (fun j => hfσ36 k j not_false))).symm
                subst hsσ36
                rcases hpr37 with ⟨rfl, hpr37⟩ | ⟨rfl, hpr37⟩
                · skip
                  refine dk_if_ne (tgt := 157) (pc' := 155) hE dX11_works_152 (by decide) rfl (fun hc39 => ?_) (fun hc39 => absurd hc39 (by decide))
                  refine dk_aload_n (pc' := 158) hE dX11_works_157 rfl rfl rfl ?_
                  refine dk_aload_n (pc' := 159) hE dX11_works_158 rfl rfl rfl ?_
                  refine gf_11_28 (pc' := 162) hE fl_X11_269 dX11_works_159 is_141 rfl (fun v40 hv40 htv40 hbv40 => ?_)
                  have hq40 : r = v40 := (show v40 = r by rw [hv40, hF127 141 28 (by omega), hfσ28 141 28 (by omega), hF98 141 28 (by omega), eσ21, dk_up_n (show ¬ (141 = 150 ∧ 28 = r) by omega), hv20]).symm
                  subst hq40
                  clear htv40 hbv40
                  refine pf_11_27 (pc' := 165) hE fl_X11_266 dX11_works_162 is_141 (by omega) rfl (fun σ41 eσ41 => ?_)
                  refine dk_aload_n (pc' := 166) hE dX11_works_165 rfl rfl rfl ?_
                  refine dk_iconst (pc' := 167) hE dX11_works_166 (by decide) rfl ?_
                  refine pf_11_53 (pc' := 170) hE fl_X11_275 dX11_works_167 is_141 (by omega) rfl (fun σ42 eσ42 => ?_)
                  have gi43 : MI σ42 := MI_bank hG127 eσ41 eσ42
                  refine dk_aload_n (pc' := 171) hE dX11_works_170 rfl rfl rfl ?_
                  refine dk_iconst (pc' := 172) hE dX11_works_171 (by decide) rfl ?_
                  refine pf_11_79 (pc' := 175) hE fl_X11_278 dX11_works_172 is_141 (by omega) rfl (fun σ44 eσ44 => ?_)
                  refine dk_aload_n (pc' := 176) hE dX11_works_175 rfl rfl rfl ?_
                  refine gf_11_11 (pc' := 179) (w := 144) hE fl_X11_20 dX11_works_176 is_141 rfl rfl ?_
                  refine dk_aload_n (pc' := 180) hE dX11_works_179 rfl rfl rfl ?_
                  refine gf_11_27 (pc' := 183) hE fl_X11_266 dX11_works_180 is_141 rfl (fun v45 hv45 htv45 hbv45 => ?_)
                  have hq45 : r = v45 := (show v45 = r by rw [hv45, eσ44, dk_up_n (show ¬ (141 = 141 ∧ 27 = 79) by omega), eσ42, dk_up_n (show ¬ (141 = 141 ∧ 27 = 53) by omega), eσ41, dk_up_s]).symm
                  subst hq45
                  clear htv45 hbv45
                  refine ga_72 (pc' := 184) hE dX11_works_183 is_144 (by omega) rfl (fun v46 hv46 htv46 hbv46 => ?_)
                  have gi47 : MI σ44 := MI_fr gi43 (fun k_ j_ h_ => by rw [eσ44, dk_up_n (show ¬ (k_ = 141 ∧ j_ = 79) from fun q_ => fpj26_79 q_ h_)])
                  exact dk_iret (st := []) hE hR dX11_works_184 ⟨_, rfl, (fun k_ j_ h_ => by rw [eσ44, dk_up_n (show ¬ (k_ = 141 ∧ j_ = 79) from fun q_ => h_ (Or.inr (Or.inr (Or.inr (Or.inr (Or.inr (Or.inr (Or.inr (Or.inr (Or.inr (Or.inr (Or.inr (Or.inr (Or.inl (q_))))))))))))))), eσ42, dk_up_n (show ¬ (k_ = 141 ∧ j_ = 53) from fun q_ => h_ (Or.inr (Or.inr (Or.inr (Or.inr (Or.inr (Or.inr (Or.inr (Or.inr (Or.inr (Or.inr (Or.inr (Or.inl (q_)))))))))))))), eσ41, dk_up_n (show ¬ (k_ = 141 ∧ j_ = 27) from fun q_ => h_ (Or.inr (Or.inr (Or.inr (Or.inr (Or.inr (Or.inr (Or.inr (Or.inr (Or.inr (Or.inl (q_)))))))))))), hF127 k_ j_ (fun w_ => h_ (w_.elim (fun x0_ => Or.inr (Or.inr (Or.inl (x0_)))) (fun y0_ => y0_.elim (fun x1_ => Or.inr (Or.inr (Or.inr (Or.inl (x1_))))) (fun y1_ => y1_.elim (fun x2_ => Or.inr (Or.inr (Or.inr (Or.inr (Or.inl (x2_)))))) (fun y2_ => y2_.elim (fun x3_ => Or.inr (Or.inr (Or.inr (Or.inr (Or.inr (Or.inl (x3_))))))) (fun y3_ => y3_.elim (fun x4_ => Or.inr (Or.inr (Or.inr (Or.inr (Or.inr (Or.inr (Or.inl (x4_)))))))) (fun y4_ => y4_.elim (fun x5_ => Or.inr (Or.inr (Or.inr (Or.inr (Or.inr (Or.inr (Or.inr (Or.inl (x5_))))))))) (fun y5_ => y5_.elim (fun x6_ => Or.inr (Or.inr (Or.inr (Or.inr (Or.inr (Or.inr (Or.inr (Or.inr (Or.inl (x6_)))))))))) (fun y6_ => Or.inr (Or.inr (Or.inr (Or.inr (Or.inr (Or.inr (Or.inr (Or.inr (Or.inr (Or.inr (Or.inr (Or.inr (Or.inr (dk_wrr (lo := 143) (hi := 159) y6_ (by decide) (by decide))))))))))))))))))))))), hfσ28 k_ j_ (fun w_ => h_ (w_.elim (fun x0_ => Or.inr (Or.inr (Or.inr (Or.inr (Or.inl (x0_)))))) (fun y0_ => y0_.elim (fun x1_ => Or.inr (Or.inr (Or.inr (Or.inr (Or.inr (Or.inl (x1_))))))) (fun y1_ => y1_.elim (fun x2_ => Or.inr (Or.inr (Or.inr (Or.inr (Or.inr (Or.inr (Or.inl (x2_)))))))) (fun y2_ => y2_.elim (fun x3_ => Or.inr (Or.inr (Or.inr (Or.inr (Or.inr (Or.inr (Or.inr (Or.inl (x3_))))))))) (fun y3_ => Or.inr (Or.inr (Or.inr (Or.inr (Or.inr (Or.inr (Or.inr (Or.inr (Or.inl (y3_))))))))))))))), hF98 k_ j_ (fun w_ => h_ (Or.inr (Or.inr (Or.inr (Or.inr (Or.inr (Or.inr (Or.inr (Or.inr (Or.inr (Or.inr (Or.inr (Or.inr (Or.inr (dk_wr (lo := 143) (hi := 159) w_ (by decide)))))))))))))))), eσ21, dk_up_n (show ¬ (k_ = 150 ∧ j_ = r) from fun q_ => h_ (Or.inr (Or.inr (Or.inr (Or.inr (Or.inr (Or.inr (Or.inr (Or.inr (Or.inr (Or.inr (Or.inr (Or.inr (Or.inr (dk_wr (lo := 143) (hi := 159) q_.1 (by decide)))))))))))))))), eσ19, dk_up_n (show ¬ (k_ = 149 ∧ j_ = r) from fun q_ => h_ (Or.inr (Or.inr (Or.inr (Or.inr (Or.inr (Or.inr (Or.inr (Or.inr (Or.inr (Or.inr (Or.inr (Or.inr (Or.inr (dk_wr (lo := 143) (hi := 159) q_.1 (by decide)))))))))))))))), eσ17, dk_up_n (show ¬ (k_ = 148 ∧ j_ = r) from fun q_ => h_ (Or.inr (Or.inr (Or.inr (Or.inr (Or.inr (Or.inr (Or.inr (Or.inr (Or.inr (Or.inr (Or.inr (Or.inr (Or.inr (dk_wr (lo := 143) (hi := 159) q_.1 (by decide)))))))))))))))), eσ15, dk_up_n (show ¬ (k_ = 158 ∧ j_ = r) from fun q_ => h_ (Or.inr (Or.inr (Or.inr (Or.inr (Or.inr (Or.inr (Or.inr (Or.inr (Or.inr (Or.inr (Or.inr (Or.inr (Or.inr (dk_wr (lo := 143) (hi := 159) q_.1 (by decide)))))))))))))))), eσ13, dk_up_n (show ¬ (k_ = 147 ∧ j_ = r) from fun q_ => h_ (Or.inr (Or.inr (Or.inr (Or.inr (Or.inr (Or.inr (Or.inr (Or.inr (Or.inr (Or.inr (Or.inr (Or.inr (Or.inr (dk_wr (lo := 143) (hi := 159) q_.1 (by decide)))))))))))))))), eσ11, dk_up_n (show ¬ (k_ = 146 ∧ j_ = r) from fun q_ => h_ (Or.inr (Or.inr (Or.inr (Or.inr (Or.inr (Or.inr (Or.inr (Or.inr (Or.inr (Or.inr (Or.inr (Or.inr (Or.inr (dk_wr (lo := 143) (hi := 159) q_.1 (by decide)))))))))))))))), eσ9, dk_up_n (show ¬ (k_ = 145 ∧ j_ = r) from fun q_ => h_ (Or.inr (Or.inr (Or.inr (Or.inr (Or.inr (Or.inr (Or.inr (Or.inr (Or.inr (Or.inr (Or.inr (Or.inr (Or.inr (dk_wr (lo := 143) (hi := 159) q_.1 (by decide)))))))))))))))), eσ7, dk_up_n (show ¬ (k_ = 144 ∧ j_ = r) from fun q_ => h_ (Or.inr (Or.inr (Or.inr (Or.inr (Or.inr (Or.inr (Or.inr (Or.inr (Or.inr (Or.inr (Or.inr (Or.inr (Or.inr (dk_wr (lo := 143) (hi := 159) q_.1 (by decide)))))))))))))))), eσ5, dk_up_n (show ¬ (k_ = 141 ∧ j_ = 28) from fun q_ => h_ (Or.inr (Or.inr (Or.inr (Or.inr (Or.inr (Or.inr (Or.inr (Or.inr (Or.inr (Or.inr (Or.inl (q_))))))))))))), hfσ1 k_ j_ (fun w_ => h_ (w_.elim (fun x0_ => Or.inl (x0_)) (fun y0_ => y0_.elim (fun x1_ => Or.inr (Or.inl (x1_))) (fun y1_ => y1_.elim (fun x2_ => Or.inr (Or.inr (Or.inl (x2_)))) (fun y2_ => y2_.elim (fun x3_ => Or.inr (Or.inr (Or.inr (Or.inl (x3_))))) (fun y3_ => y3_.elim (fun x4_ => Or.inr (Or.inr (Or.inr (Or.inr (Or.inr (Or.inl (x4_))))))) (fun y4_ => Or.inr (Or.inr (Or.inr (Or.inr (Or.inr (Or.inr (Or.inr (Or.inr (Or.inr (Or.inr (Or.inr (Or.inr (Or.inr (dk_wr (lo := 143) (hi := 159) y4_ (by decide)))))))))))))))))))))]), gi47⟩
                · skip
                  refine dk_if_ne (tgt := 157) (pc' := 155) hE dX11_works_152 (by decide) rfl (fun hc48 => absurd hc48 (by decide)) (fun hc48 => ?_)
                  refine dk_iconst (pc' := 156) hE dX11_works_155 (by decide) rfl ?_
                  exact dk_iret (st := []) hE hR dX11_works_156 ⟨_, rfl, (fun k_ j_ h_ => by rw [hF127 k_ j_ (fun w_ => h_ (w_.elim (fun x0_ => Or.inr (Or.inr (Or.inl (x0_)))) (fun y0_ => y0_.elim (fun x1_ => Or.inr (Or.inr (Or.inr (Or.inl (x1_))))) (fun y1_ => y1_.elim (fun x2_ => Or.inr (Or.inr (Or.inr (Or.inr (Or.inl (x2_)))))) (fun y2_ => y2_.elim (fun x3_ => Or.inr (Or.inr (Or.inr (Or.inr (Or.inr (Or.inl (x3_))))))) (fun y3_ => y3_.elim (fun x4_ => Or.inr (Or.inr (Or.inr (Or.inr (Or.inr (Or.inr (Or.inl (x4_)))))))) (fun y4_ => y4_.elim (fun x5_ => Or.inr (Or.inr (Or.inr (Or.inr (Or.inr (Or.inr (Or.inr (Or.inl (x5_))))))))) (fun y5_ => y5_.elim (fun x6_ => Or.inr (Or.inr (Or.inr (Or.inr (Or.inr (Or.inr (Or.inr (Or.inr (Or.inl (x6_)))))))))) (fun y6_ => Or.inr (Or.inr (Or.inr (Or.inr (Or.inr (Or.inr (Or.inr (Or.inr (Or.inr (Or.inr (Or.inr (Or.inr (Or.inr (dk_wrr (lo := 143) (hi := 159) y6_ (by decide) (by decide))))))))))))))))))))))), hfσ28 k_ j_ (fun w_ => h_ (w_.elim (fun x0_ => Or.inr (Or.inr (Or.inr (Or.inr (Or.inl (x0_)))))) (fun y0_ => y0_.elim (fun x1_ => Or.inr (Or.inr (Or.inr (Or.inr (Or.inr (Or.inl (x1_))))))) (fun y1_ => y1_.elim (fun x2_ => Or.inr (Or.inr (Or.inr (Or.inr (Or.inr (Or.inr (Or.inl (x2_)))))))) (fun y2_ => y2_.elim (fun x3_ => Or.inr (Or.inr (Or.inr (Or.inr (Or.inr (Or.inr (Or.inr (Or.inl (x3_))))))))) (fun y3_ => Or.inr (Or.inr (Or.inr (Or.inr (Or.inr (Or.inr (Or.inr (Or.inr (Or.inl (y3_))))))))))))))), hF98 k_ j_ (fun w_ => h_ (Or.inr (Or.inr (Or.inr (Or.inr (Or.inr (Or.inr (Or.inr (Or.inr (Or.inr (Or.inr (Or.inr (Or.inr (Or.inr (dk_wr (lo := 143) (hi := 159) w_ (by decide)))))))))))))))), eσ21, dk_up_n (show ¬ (k_ = 150 ∧ j_ = r) from fun q_ => h_ (Or.inr (Or.inr (Or.inr (Or.inr (Or.inr (Or.inr (Or.inr (Or.inr (Or.inr (Or.inr (Or.inr (Or.inr (Or.inr (dk_wr (lo := 143) (hi := 159) q_.1 (by decide)))))))))))))))), eσ19, dk_up_n (show ¬ (k_ = 149 ∧ j_ = r) from fun q_ => h_ (Or.inr (Or.inr (Or.inr (Or.inr (Or.inr (Or.inr (Or.inr (Or.inr (Or.inr (Or.inr (Or.inr (Or.inr (Or.inr (dk_wr (lo := 143) (hi := 159) q_.1 (by decide)))))))))))))))), eσ17, dk_up_n (show ¬ (k_ = 148 ∧ j_ = r) from fun q_ => h_ (Or.inr (Or.inr (Or.inr (Or.inr (Or.inr (Or.inr (Or.inr (Or.inr (Or.inr (Or.inr (Or.inr (Or.inr (Or.inr (dk_wr (lo := 143) (hi := 159) q_.1 (by decide)))))))))))))))), eσ15, dk_up_n (show ¬ (k_ = 158 ∧ j_ = r) from fun q_ => h_ (Or.inr (Or.inr (Or.inr (Or.inr (Or.inr (Or.inr (Or.inr (Or.inr (Or.inr (Or.inr (Or.inr (Or.inr (Or.inr (dk_wr (lo := 143) (hi := 159) q_.1 (by decide)))))))))))))))), eσ13, dk_up_n (show ¬ (k_ = 147 ∧ j_ = r) from fun q_ => h_ (Or.inr (Or.inr (Or.inr (Or.inr (Or.inr (Or.inr (Or.inr (Or.inr (Or.inr (Or.inr (Or.inr (Or.inr (Or.inr (dk_wr (lo := 143) (hi := 159) q_.1 (by decide)))))))))))))))), eσ11, dk_up_n (show ¬ (k_ = 146 ∧ j_ = r) from fun q_ => h_ (Or.inr (Or.inr (Or.inr (Or.inr (Or.inr (Or.inr (Or.inr (Or.inr (Or.inr (Or.inr (Or.inr (Or.inr (Or.inr (dk_wr (lo := 143) (hi := 159) q_.1 (by decide)))))))))))))))), eσ9, dk_up_n (show ¬ (k_ = 145 ∧ j_ = r) from fun q_ => h_ (Or.inr (Or.inr (Or.inr (Or.inr (Or.inr (Or.inr (Or.inr (Or.inr (Or.inr (Or.inr (Or.inr (Or.inr (Or.inr (dk_wr (lo := 143) (hi := 159) q_.1 (by decide)))))))))))))))), eσ7, dk_up_n (show ¬ (k_ = 144 ∧ j_ = r) from fun q_ => h_ (Or.inr (Or.inr (Or.inr (Or.inr (Or.inr (Or.inr (Or.inr (Or.inr (Or.inr (Or.inr (Or.inr (Or.inr (Or.inr (dk_wr (lo := 143) (hi := 159) q_.1 (by decide)))))))))))))))), eσ5, dk_up_n (show ¬ (k_ = 141 ∧ j_ = 28) from fun q_ => h_ (Or.inr (Or.inr (Or.inr (Or.inr (Or.inr (Or.inr (Or.inr (Or.inr (Or.inr (Or.inr (Or.inl (q_))))))))))))), hfσ1 k_ j_ (fun w_ => h_ (w_.elim (fun x0_ => Or.inl (x0_)) (fun y0_ => y0_.elim (fun x1_ => Or.inr (Or.inl (x1_))) (fun y1_ => y1_.elim (fun x2_ => Or.inr (Or.inr (Or.inl (x2_)))) (fun y2_ => y2_.elim (fun x3_ => Or.inr (Or.inr (Or.inr (Or.inl (x3_))))) (fun y3_ => y3_.elim (fun x4_ => Or.inr (Or.inr (Or.inr (Or.inr (Or.inr (Or.inl (x4_))))))) (fun y4_ => Or.inr (Or.inr (Or.inr (Or.inr (Or.inr (Or.inr (Or.inr (Or.inr (Or.inr (Or.inr (Or.inr (Or.inr (Or.inr (dk_wr (lo := 143) (hi := 159) y4_ (by decide)))))))))))))))))))))]), (hG127).1⟩
              · skip
                refine dk_aload_n (pc' := 142) hE dX11_works_141 rfl rfl rfl ?_
                have hz49 : σ127c 141 3 = σ 141 2 := by rw [hF127 141 3 (by omega), hfσ28 141 3 (by omega), hF98 141 3 (by omega), eσ21, dk_up_n (show ¬ (141 = 150 ∧ 3 = r) by omega), eσ19, dk_up_n (show ¬ (141 = 149 ∧ 3 = r) by omega), eσ17, dk_up_n (show ¬ (141 = 148 ∧ 3 = r) by omega), eσ15, dk_up_n (show ¬ (141 = 158 ∧ 3 = r) by omega), eσ13, dk_up_n (show ¬ (141 = 147 ∧ 3 = r) by omega), eσ11, dk_up_n (show ¬ (141 = 146 ∧ 3 = r) by omega), eσ9, dk_up_n (show ¬ (141 = 145 ∧ 3 = r) by omega), eσ7, dk_up_n (show ¬ (141 = 144 ∧ 3 = r) by omega), eσ5, dk_up_n (show ¬ (141 = 141 ∧ 3 = 28) by omega), (hpr2.1).symm]
                have hz50 : σ127c 141 28 = r := by rw [hF127 141 28 (by omega), hfσ28 141 28 (by omega), hF98 141 28 (by omega), eσ21, dk_up_n (show ¬ (141 = 150 ∧ 28 = r) by omega), hv20]
                refine dk_cV (pc' := 145) (as := []) hE lk_X11_272 (ct_X11_readWorks l G hGd r (σ127c 147 r) (σ127c 145 r) (σ127c 146 r)) dX11_works_142 rfl is_141 rfl (by decide) (Nat.le_of_ble_eq_true rfl) ⟨rfl, (hTk), (by omega), (by omega), (by omega), (by omega), (by omega), (by omega), (hG127), (by omega), (by omega), (by omega)⟩ rfl (fun r52 σ51 hr52 hor52 => ?_)
                obtain ⟨rfl, hfσ51, hpr52⟩ := hr52
                have H142 := hpr52
                have gi53 : TI r σ51 := hpr52.1.2
                have hy_ := H142.2.1
                have hx_ := H142.1.1.2.2.1
                have hw_ := H142.1.1.2.2.2.2
                have hz_ := H142.1.1.1
                refine dk_goto (tgt := 127) hE dX11_works_145 (by decide) ?_
                have hz53_141_3 := (show σ51 141 3 = _ by rw [hfσ51 141 3 (by omega)])
                have hz54_141_28 := (show σ51 141 28 = _ by rw [hfσ51 141 28 (by omega)])
                exact ih127 σ51 (by omega) (fun k_ j_ h_ => by rw [hfσ51 k_ j_ (fun w_ => h_ (w_.elim (fun x0_ => Or.inl (x0_)) (fun y0_ => y0_.elim (fun x1_ => Or.inr (Or.inl (x1_))) (fun y1_ => y1_.elim (fun x2_ => Or.inr (Or.inr (Or.inl (x2_)))) (fun y2_ => y2_.elim (fun x3_ => Or.inr (Or.inr (Or.inr (Or.inl (x3_))))) (fun y3_ => y3_.elim (fun x4_ => Or.inr (Or.inr (Or.inr (Or.inr (Or.inl (x4_)))))) (fun y4_ => y4_.elim (fun x5_ => Or.inr (Or.inr (Or.inr (Or.inr (Or.inr (Or.inl (x5_))))))) (fun y5_ => y5_.elim (fun x6_ => Or.inr (Or.inr (Or.inr (Or.inr (Or.inr (Or.inr (Or.inl (x6_)))))))) (fun y6_ => Or.inr (Or.inr (Or.inr (Or.inr (Or.inr (Or.inr (Or.inr (y6_)))))))))))))))), hF127 k_ j_ (fun w_ => h_ (w_.elim (fun x0_ => Or.inl (x0_)) (fun y0_ => y0_.elim (fun x1_ => Or.inr (Or.inl (x1_))) (fun y1_ => y1_.elim (fun x2_ => Or.inr (Or.inr (Or.inl (x2_)))) (fun y2_ => y2_.elim (fun x3_ => Or.inr (Or.inr (Or.inr (Or.inl (x3_))))) (fun y3_ => y3_.elim (fun x4_ => Or.inr (Or.inr (Or.inr (Or.inr (Or.inl (x4_)))))) (fun y4_ => y4_.elim (fun x5_ => Or.inr (Or.inr (Or.inr (Or.inr (Or.inr (Or.inl (x5_))))))) (fun y5_ => y5_.elim (fun x6_ => Or.inr (Or.inr (Or.inr (Or.inr (Or.inr (Or.inr (Or.inl (x6_)))))))) (fun y6_ => Or.inr (Or.inr (Or.inr (Or.inr (Or.inr (Or.inr (Or.inr (y6_))))))))))))))))]) gi53 (by first | exact H142.1.1.2.1 | exact H124.2.1) (by omega) (by omega) (by omega)
            · skip
              refine dk_if_eq (tgt := 148) (pc' := 134) hE dX11_works_131 (by decide) rfl (fun hc61 => ?_) (fun hc61 => absurd hc61 (by decide))
              refine dk_aload_n (pc' := 149) hE dX11_works_148 rfl rfl rfl ?_
              refine dk_cV (pc' := 152) (as := []) hE lk_X11_250 (ct_X11_isGood l G hGd) dX11_works_149 rfl is_141 rfl (by decide) (Nat.le_of_ble_eq_true rfl) rfl rfl (fun r63 σ62 hr63 hor63 => ?_)
              obtain ⟨v64, rfl, hfσ62, hpr63⟩ := hr63
              have hsσ62 : σ127c = σ62 := (funext (fun k => funext (fun j => hfσ62 k j not_false))).symm
              subst hsσ62
              rcases hpr63 with ⟨rfl, hpr63⟩ | ⟨rfl, hpr63⟩
              · skip
                refine dk_if_ne (tgt := 157) (pc' := 155) hE dX11_works_152 (by decide) rfl (fun hc65 => ?_) (fun hc65 => absurd hc65 (by decide))
                refine dk_aload_n (pc' := 158) hE dX11_works_157 rfl rfl rfl ?_
                refine dk_aload_n (pc' := 159) hE dX11_works_158 rfl rfl rfl ?_
                refine gf_11_28 (pc' := 162) hE fl_X11_269 dX11_works_159 is_141 rfl (fun v66 hv66 htv66 hbv66 => ?_)
                have hq66 : r = v66 := (show v66 = r by rw [hv66, hF127 141 28 (by omega), hfσ28 141 28 (by omega), hF98 141 28 (by omega), eσ21, dk_up_n (show ¬ (141 = 150 ∧ 28 = r) by omega), hv20]).symm
                subst hq66
                clear htv66 hbv66
                refine pf_11_27 (pc' := 165) hE fl_X11_266 dX11_works_162 is_141 (by omega) rfl (fun σ67 eσ67 => ?_)
                refine dk_aload_n (pc' := 166) hE dX11_works_165 rfl rfl rfl ?_
                refine dk_iconst (pc' := 167) hE dX11_works_166 (by decide) rfl ?_
                refine pf_11_53 (pc' := 170) hE fl_X11_275 dX11_works_167 is_141 (by omega) rfl (fun σ68 eσ68 => ?_)
                have gi69 : MI σ68 := MI_bank hG127 eσ67 eσ68
                refine dk_aload_n (pc' := 171) hE dX11_works_170 rfl rfl rfl ?_
                refine dk_iconst (pc' := 172) hE dX11_works_171 (by decide) rfl ?_
                refine pf_11_79 (pc' := 175) hE fl_X11_278 dX11_works_172 is_141 (by omega) rfl (fun σ70 eσ70 => ?_)
                refine dk_aload_n (pc' := 176) hE dX11_works_175 rfl rfl rfl ?_
                refine gf_11_11 (pc' := 179) (w := 144) hE fl_X11_20 dX11_works_176 is_141 rfl rfl ?_
                refine dk_aload_n (pc' := 180) hE dX11_works_179 rfl rfl rfl ?_
                refine gf_11_27 (pc' := 183) hE fl_X11_266 dX11_works_180 is_141 rfl (fun v71 hv71 htv71 hbv71 => ?_)
                have hq71 : r = v71 := (show v71 = r by rw [hv71, eσ70, dk_up_n (show ¬ (141 = 141 ∧ 27 = 79) by omega), eσ68, dk_up_n (show ¬ (141 = 141 ∧ 27 = 53) by omega), eσ67, dk_up_s]).symm
                subst hq71
                clear htv71 hbv71
                refine ga_72 (pc' := 184) hE dX11_works_183 is_144 (by omega) rfl (fun v72 hv72 htv72 hbv72 => ?_)
                have gi73 : MI σ70 := MI_fr gi69 (fun k_ j_ h_ => by rw [eσ70, dk_up_n (show ¬ (k_ = 141 ∧ j_ = 79) from fun q_ => fpj26_79 q_ h_)])
                exact dk_iret (st := []) hE hR dX11_works_184 ⟨_, rfl, (fun k_ j_ h_ => by rw [eσ70, dk_up_n (show ¬ (k_ = 141 ∧ j_ = 79) from fun q_ => h_ (Or.inr (Or.inr (Or.inr (Or.inr (Or.inr (Or.inr (Or.inr (Or.inr (Or.inr (Or.inr (Or.inr (Or.inr (Or.inl (q_))))))))))))))), eσ68, dk_up_n (show ¬ (k_ = 141 ∧ j_ = 53) from fun q_ => h_ (Or.inr (Or.inr (Or.inr (Or.inr (Or.inr (Or.inr (Or.inr (Or.inr (Or.inr (Or.inr (Or.inr (Or.inl (q_)))))))))))))), eσ67, dk_up_n (show ¬ (k_ = 141 ∧ j_ = 27) from fun q_ => h_ (Or.inr (Or.inr (Or.inr (Or.inr (Or.inr (Or.inr (Or.inr (Or.inr (Or.inr (Or.inl (q_)))))))))))), hF127 k_ j_ (fun w_ => h_ (w_.elim (fun x0_ => Or.inr (Or.inr (Or.inl (x0_)))) (fun y0_ => y0_.elim (fun x1_ => Or.inr (Or.inr (Or.inr (Or.inl (x1_))))) (fun y1_ => y1_.elim (fun x2_ => Or.inr (Or.inr (Or.inr (Or.inr (Or.inl (x2_)))))) (fun y2_ => y2_.elim (fun x3_ => Or.inr (Or.inr (Or.inr (Or.inr (Or.inr (Or.inl (x3_))))))) (fun y3_ => y3_.elim (fun x4_ => Or.inr (Or.inr (Or.inr (Or.inr (Or.inr (Or.inr (Or.inl (x4_)))))))) (fun y4_ => y4_.elim (fun x5_ => Or.inr (Or.inr (Or.inr (Or.inr (Or.inr (Or.inr (Or.inr (Or.inl (x5_))))))))) (fun y5_ => y5_.elim (fun x6_ => Or.inr (Or.inr (Or.inr (Or.inr (Or.inr (Or.inr (Or.inr (Or.inr (Or.inl (x6_)))))))))) (fun y6_ => Or.inr (Or.inr (Or.inr (Or.inr (Or.inr (Or.inr (Or.inr (Or.inr (Or.inr (Or.inr (Or.inr (Or.inr (Or.inr (dk_wrr (lo := 143) (hi := 159) y6_ (by decide) (by decide))))))))))))))))))))))), hfσ28 k_ j_ (fun w_ => h_ (w_.elim (fun x0_ => Or.inr (Or.inr (Or.inr (Or.inr (Or.inl (x0_)))))) (fun y0_ => y0_.elim (fun x1_ => Or.inr (Or.inr (Or.inr (Or.inr (Or.inr (Or.inl (x1_))))))) (fun y1_ => y1_.elim (fun x2_ => Or.inr (Or.inr (Or.inr (Or.inr (Or.inr (Or.inr (Or.inl (x2_)))))))) (fun y2_ => y2_.elim (fun x3_ => Or.inr (Or.inr (Or.inr (Or.inr (Or.inr (Or.inr (Or.inr (Or.inl (x3_))))))))) (fun y3_ => Or.inr (Or.inr (Or.inr (Or.inr (Or.inr (Or.inr (Or.inr (Or.inr (Or.inl (y3_))))))))))))))), hF98 k_ j_ (fun w_ => h_ (Or.inr (Or.inr (Or.inr (Or.inr (Or.inr (Or.inr (Or.inr (Or.inr (Or.inr (Or.inr (Or.inr (Or.inr (Or.inr (dk_wr (lo := 143) (hi := 159) w_ (by decide)))))))))))))))), eσ21, dk_up_n (show ¬ (k_ = 150 ∧ j_ = r) from fun q_ => h_ (Or.inr (Or.inr (Or.inr (Or.inr (Or.inr (Or.inr (Or.inr (Or.inr (Or.inr (Or.inr (Or.inr (Or.inr (Or.inr (dk_wr (lo := 143) (hi := 159) q_.1 (by decide)))))))))))))))), eσ19, dk_up_n (show ¬ (k_ = 149 ∧ j_ = r) from fun q_ => h_ (Or.inr (Or.inr (Or.inr (Or.inr (Or.inr (Or.inr (Or.inr (Or.inr (Or.inr (Or.inr (Or.inr (Or.inr (Or.inr (dk_wr (lo := 143) (hi := 159) q_.1 (by decide)))))))))))))))), eσ17, dk_up_n (show ¬ (k_ = 148 ∧ j_ = r) from fun q_ => h_ (Or.inr (Or.inr (Or.inr (Or.inr (Or.inr (Or.inr (Or.inr (Or.inr (Or.inr (Or.inr (Or.inr (Or.inr (Or.inr (dk_wr (lo := 143) (hi := 159) q_.1 (by decide)))))))))))))))), eσ15, dk_up_n (show ¬ (k_ = 158 ∧ j_ = r) from fun q_ => h_ (Or.inr (Or.inr (Or.inr (Or.inr (Or.inr (Or.inr (Or.inr (Or.inr (Or.inr (Or.inr (Or.inr (Or.inr (Or.inr (dk_wr (lo := 143) (hi := 159) q_.1 (by decide)))))))))))))))), eσ13, dk_up_n (show ¬ (k_ = 147 ∧ j_ = r) from fun q_ => h_ (Or.inr (Or.inr (Or.inr (Or.inr (Or.inr (Or.inr (Or.inr (Or.inr (Or.inr (Or.inr (Or.inr (Or.inr (Or.inr (dk_wr (lo := 143) (hi := 159) q_.1 (by decide)))))))))))))))), eσ11, dk_up_n (show ¬ (k_ = 146 ∧ j_ = r) from fun q_ => h_ (Or.inr (Or.inr (Or.inr (Or.inr (Or.inr (Or.inr (Or.inr (Or.inr (Or.inr (Or.inr (Or.inr (Or.inr (Or.inr (dk_wr (lo := 143) (hi := 159) q_.1 (by decide)))))))))))))))), eσ9, dk_up_n (show ¬ (k_ = 145 ∧ j_ = r) from fun q_ => h_ (Or.inr (Or.inr (Or.inr (Or.inr (Or.inr (Or.inr (Or.inr (Or.inr (Or.inr (Or.inr (Or.inr (Or.inr (Or.inr (dk_wr (lo := 143) (hi := 159) q_.1 (by decide)))))))))))))))), eσ7, dk_up_n (show ¬ (k_ = 144 ∧ j_ = r) from fun q_ => h_ (Or.inr (Or.inr (Or.inr (Or.inr (Or.inr (Or.inr (Or.inr (Or.inr (Or.inr (Or.inr (Or.inr (Or.inr (Or.inr (dk_wr (lo := 143) (hi := 159) q_.1 (by decide)))))))))))))))), eσ5, dk_up_n (show ¬ (k_ = 141 ∧ j_ = 28) from fun q_ => h_ (Or.inr (Or.inr (Or.inr (Or.inr (Or.inr (Or.inr (Or.inr (Or.inr (Or.inr (Or.inr (Or.inl (q_))))))))))))), hfσ1 k_ j_ (fun w_ => h_ (w_.elim (fun x0_ => Or.inl (x0_)) (fun y0_ => y0_.elim (fun x1_ => Or.inr (Or.inl (x1_))) (fun y1_ => y1_.elim (fun x2_ => Or.inr (Or.inr (Or.inl (x2_)))) (fun y2_ => y2_.elim (fun x3_ => Or.inr (Or.inr (Or.inr (Or.inl (x3_))))) (fun y3_ => y3_.elim (fun x4_ => Or.inr (Or.inr (Or.inr (Or.inr (Or.inr (Or.inl (x4_))))))) (fun y4_ => Or.inr (Or.inr (Or.inr (Or.inr (Or.inr (Or.inr (Or.inr (Or.inr (Or.inr (Or.inr (Or.inr (Or.inr (Or.inr (dk_wr (lo := 143) (hi := 159) y4_ (by decide)))))))))))))))))))))]), gi73⟩
              · skip
                refine dk_if_ne (tgt := 157) (pc' := 155) hE dX11_works_152 (by decide) rfl (fun hc74 => absurd hc74 (by decide)) (fun hc74 => ?_)
                refine dk_iconst (pc' := 156) hE dX11_works_155 (by decide) rfl ?_
                exact dk_iret (st := []) hE hR dX11_works_156 ⟨_, rfl, (fun k_ j_ h_ => by rw [hF127 k_ j_ (fun w_ => h_ (w_.elim (fun x0_ => Or.inr (Or.inr (Or.inl (x0_)))) (fun y0_ => y0_.elim (fun x1_ => Or.inr (Or.inr (Or.inr (Or.inl (x1_))))) (fun y1_ => y1_.elim (fun x2_ => Or.inr (Or.inr (Or.inr (Or.inr (Or.inl (x2_)))))) (fun y2_ => y2_.elim (fun x3_ => Or.inr (Or.inr (Or.inr (Or.inr (Or.inr (Or.inl (x3_))))))) (fun y3_ => y3_.elim (fun x4_ => Or.inr (Or.inr (Or.inr (Or.inr (Or.inr (Or.inr (Or.inl (x4_)))))))) (fun y4_ => y4_.elim (fun x5_ => Or.inr (Or.inr (Or.inr (Or.inr (Or.inr (Or.inr (Or.inr (Or.inl (x5_))))))))) (fun y5_ => y5_.elim (fun x6_ => Or.inr (Or.inr (Or.inr (Or.inr (Or.inr (Or.inr (Or.inr (Or.inr (Or.inl (x6_)))))))))) (fun y6_ => Or.inr (Or.inr (Or.inr (Or.inr (Or.inr (Or.inr (Or.inr (Or.inr (Or.inr (Or.inr (Or.inr (Or.inr (Or.inr (dk_wrr (lo := 143) (hi := 159) y6_ (by decide) (by decide))))))))))))))))))))))), hfσ28 k_ j_ (fun w_ => h_ (w_.elim (fun x0_ => Or.inr (Or.inr (Or.inr (Or.inr (Or.inl (x0_)))))) (fun y0_ => y0_.elim (fun x1_ => Or.inr (Or.inr (Or.inr (Or.inr (Or.inr (Or.inl (x1_))))))) (fun y1_ => y1_.elim (fun x2_ => Or.inr (Or.inr (Or.inr (Or.inr (Or.inr (Or.inr (Or.inl (x2_)))))))) (fun y2_ => y2_.elim (fun x3_ => Or.inr (Or.inr (Or.inr (Or.inr (Or.inr (Or.inr (Or.inr (Or.inl (x3_))))))))) (fun y3_ => Or.inr (Or.inr (Or.inr (Or.inr (Or.inr (Or.inr (Or.inr (Or.inr (Or.inl (y3_))))))))))))))), hF98 k_ j_ (fun w_ => h_ (Or.inr (Or.inr (Or.inr (Or.inr (Or.inr (Or.inr (Or.inr (Or.inr (Or.inr (Or.inr (Or.inr (Or.inr (Or.inr (dk_wr (lo := 143) (hi := 159) w_ (by decide)))))))))))))))), eσ21, dk_up_n (show ¬ (k_ = 150 ∧ j_ = r) from fun q_ => h_ (Or.inr (Or.inr (Or.inr (Or.inr (Or.inr (Or.inr (Or.inr (Or.inr (Or.inr (Or.inr (Or.inr (Or.inr (Or.inr (dk_wr (lo := 143) (hi := 159) q_.1 (by decide)))))))))))))))), eσ19, dk_up_n (show ¬ (k_ = 149 ∧ j_ = r) from fun q_ => h_ (Or.inr (Or.inr (Or.inr (Or.inr (Or.inr (Or.inr (Or.inr (Or.inr (Or.inr (Or.inr (Or.inr (Or.inr (Or.inr (dk_wr (lo := 143) (hi := 159) q_.1 (by decide)))))))))))))))), eσ17, dk_up_n (show ¬ (k_ = 148 ∧ j_ = r) from fun q_ => h_ (Or.inr (Or.inr (Or.inr (Or.inr (Or.inr (Or.inr (Or.inr (Or.inr (Or.inr (Or.inr (Or.inr (Or.inr (Or.inr (dk_wr (lo := 143) (hi := 159) q_.1 (by decide)))))))))))))))), eσ15, dk_up_n (show ¬ (k_ = 158 ∧ j_ = r) from fun q_ => h_ (Or.inr (Or.inr (Or.inr (Or.inr (Or.inr (Or.inr (Or.inr (Or.inr (Or.inr (Or.inr (Or.inr (Or.inr (Or.inr (dk_wr (lo := 143) (hi := 159) q_.1 (by decide)))))))))))))))), eσ13, dk_up_n (show ¬ (k_ = 147 ∧ j_ = r) from fun q_ => h_ (Or.inr (Or.inr (Or.inr (Or.inr (Or.inr (Or.inr (Or.inr (Or.inr (Or.inr (Or.inr (Or.inr (Or.inr (Or.inr (dk_wr (lo := 143) (hi := 159) q_.1 (by decide)))))))))))))))), eσ11, dk_up_n (show ¬ (k_ = 146 ∧ j_ = r) from fun q_ => h_ (Or.inr (Or.inr (Or.inr (Or.inr (Or.inr (Or.inr (Or.inr (Or.inr (Or.inr (Or.inr (Or.inr (Or.inr (Or.inr (dk_wr (lo := 143) (hi := 159) q_.1 (by decide)))))))))))))))), eσ9, dk_up_n (show ¬ (k_ = 145 ∧ j_ = r) from fun q_ => h_ (Or.inr (Or.inr (Or.inr (Or.inr (Or.inr (Or.inr (Or.inr (Or.inr (Or.inr (Or.inr (Or.inr (Or.inr (Or.inr (dk_wr (lo := 143) (hi := 159) q_.1 (by decide)))))))))))))))), eσ7, dk_up_n (show ¬ (k_ = 144 ∧ j_ = r) from fun q_ => h_ (Or.inr (Or.inr (Or.inr (Or.inr (Or.inr (Or.inr (Or.inr (Or.inr (Or.inr (Or.inr (Or.inr (Or.inr (Or.inr (dk_wr (lo := 143) (hi := 159) q_.1 (by decide)))))))))))))))), eσ5, dk_up_n (show ¬ (k_ = 141 ∧ j_ = 28) from fun q_ => h_ (Or.inr (Or.inr (Or.inr (Or.inr (Or.inr (Or.inr (Or.inr (Or.inr (Or.inr (Or.inr (Or.inl (q_))))))))))))), hfσ1 k_ j_ (fun w_ => h_ (w_.elim (fun x0_ => Or.inl (x0_)) (fun y0_ => y0_.elim (fun x1_ => Or.inr (Or.inl (x1_))) (fun y1_ => y1_.elim (fun x2_ => Or.inr (Or.inr (Or.inl (x2_)))) (fun y2_ => y2_.elim (fun x3_ => Or.inr (Or.inr (Or.inr (Or.inl (x3_))))) (fun y3_ => y3_.elim (fun x4_ => Or.inr (Or.inr (Or.inr (Or.inr (Or.inr (Or.inl (x4_))))))) (fun y4_ => Or.inr (Or.inr (Or.inr (Or.inr (Or.inr (Or.inr (Or.inr (Or.inr (Or.inr (Or.inr (Or.inr (Or.inr (Or.inr (dk_wr (lo := 143) (hi := 159) y4_ (by decide)))))))))))))))))))))]), (hG127).1⟩
        have hz75 : σ28 141 28 = r := by rw [hfσ28 141 28 (by omega), hF98 141 28 (by omega), eσ21, dk_up_n (show ¬ (141 = 150 ∧ 28 = r) by omega), hv20]
        have hz76 : σ28 147 r = 0 := by rw [hfσ28 147 r (by omega), hF98 147 r (by omega), eσ21, dk_up_n (show ¬ (147 = 150 ∧ r = r) by omega), eσ19, dk_up_n (show ¬ (147 = 149 ∧ r = r) by omega), eσ17, dk_up_n (show ¬ (147 = 148 ∧ r = r) by omega), eσ15, dk_up_n (show ¬ (147 = 158 ∧ r = r) by omega), eσ13, dk_up_s]
        have hz77 : σ28 145 r = 0 := by rw [hfσ28 145 r (by omega), hF98 145 r (by omega), eσ21, dk_up_n (show ¬ (145 = 150 ∧ r = r) by omega), eσ19, dk_up_n (show ¬ (145 = 149 ∧ r = r) by omega), eσ17, dk_up_n (show ¬ (145 = 148 ∧ r = r) by omega), eσ15, dk_up_n (show ¬ (145 = 158 ∧ r = r) by omega), eσ13, dk_up_n (show ¬ (145 = 147 ∧ r = r) by omega), eσ11, dk_up_n (show ¬ (145 = 146 ∧ r = r) by omega), eσ9, dk_up_s]
        have hz78 : σ28 146 r = 0 := by rw [hfσ28 146 r (by omega), hF98 146 r (by omega), eσ21, dk_up_n (show ¬ (146 = 150 ∧ r = r) by omega), eσ19, dk_up_n (show ¬ (146 = 149 ∧ r = r) by omega), eσ17, dk_up_n (show ¬ (146 = 148 ∧ r = r) by omega), eσ15, dk_up_n (show ¬ (146 = 158 ∧ r = r) by omega), eσ13, dk_up_n (show ¬ (146 = 147 ∧ r = r) by omega), eσ11, dk_up_s]
        have hz79 : σ28 145 r = 0 := by rw [hfσ28 145 r (by omega), hF98 145 r (by omega), eσ21, dk_up_n (show ¬ (145 = 150 ∧ r = r) by omega), eσ19, dk_up_n (show ¬ (145 = 149 ∧ r = r) by omega), eσ17, dk_up_n (show ¬ (145 = 148 ∧ r = r) by omega), eσ15, dk_up_n (show ¬ (145 = 158 ∧ r = r) by omega), eσ13, dk_up_n (show ¬ (145 = 147 ∧ r = r) by omega), eσ11, dk_up_n (show ¬ (145 = 146 ∧ r = r) by omega), eσ9, dk_up_s]
        have hz80 : σ28 145 r = 0 := by rw [hfσ28 145 r (by omega), hF98 145 r (by omega), eσ21, dk_up_n (show ¬ (145 = 150 ∧ r = r) by omega), eσ19, dk_up_n (show ¬ (145 = 149 ∧ r = r) by omega), eσ17, dk_up_n (show ¬ (145 = 148 ∧ r = r) by omega), eσ15, dk_up_n (show ¬ (145 = 158 ∧ r = r) by omega), eσ13, dk_up_n (show ¬ (145 = 147 ∧ r = r) by omega), eσ11, dk_up_n (show ¬ (145 = 146 ∧ r = r) by omega), eσ9, dk_up_s]
        have hz81 : σ28 146 r = 0 := by rw [hfσ28 146 r (by omega), hF98 146 r (by omega), eσ21, dk_up_n (show ¬ (146 = 150 ∧ r = r) by omega), eσ19, dk_up_n (show ¬ (146 = 149 ∧ r = r) by omega), eσ17, dk_up_n (show ¬ (146 = 148 ∧ r = r) by omega), eσ15, dk_up_n (show ¬ (146 = 158 ∧ r = r) by omega), eσ13, dk_up_n (show ¬ (146 = 147 ∧ r = r) by omega), eσ11, dk_up_s]
        have hz82 : σ28 146 r = 0 := by rw [hfσ28 146 r (by omega), hF98 146 r (by omega), eσ21, dk_up_n (show ¬ (146 = 150 ∧ r = r) by omega), eσ19, dk_up_n (show ¬ (146 = 149 ∧ r = r) by omega), eσ17, dk_up_n (show ¬ (146 = 148 ∧ r = r) by omega), eσ15, dk_up_n (show ¬ (146 = 158 ∧ r = r) by omega), eσ13, dk_up_n (show ¬ (146 = 147 ∧ r = r) by omega), eσ11, dk_up_s]
        have hz83 : σ28 141 4 = 0 := by rw [hfσ28 141 4 (by omega), hF98 141 4 (by omega), eσ21, dk_up_n (show ¬ (141 = 150 ∧ 4 = r) by omega), eσ19, dk_up_n (show ¬ (141 = 149 ∧ 4 = r) by omega), eσ17, dk_up_n (show ¬ (141 = 148 ∧ 4 = r) by omega), eσ15, dk_up_n (show ¬ (141 = 158 ∧ 4 = r) by omega), eσ13, dk_up_n (show ¬ (141 = 147 ∧ 4 = r) by omega), eσ11, dk_up_n (show ¬ (141 = 146 ∧ 4 = r) by omega), eσ9, dk_up_n (show ¬ (141 = 145 ∧ 4 = r) by omega), eσ7, dk_up_n (show ¬ (141 = 144 ∧ 4 = r) by omega), eσ5, dk_up_n (show ¬ (141 = 141 ∧ 4 = 28) by omega), (hpr2.2.2.1).symm]
        have hz84_141_28 : σ28 141 28 = r := by rw [hfσ28 141 28 (by omega), hF98 141 28 (by omega), eσ21, dk_up_n (show ¬ (141 = 150 ∧ 28 = r) by omega), eσ19, dk_up_n (show ¬ (141 = 149 ∧ 28 = r) by omega), eσ17, dk_up_n (show ¬ (141 = 148 ∧ 28 = r) by omega), eσ15, dk_up_n (show ¬ (141 = 158 ∧ 28 = r) by omega), eσ13, dk_up_n (show ¬ (141 = 147 ∧ 28 = r) by omega), eσ11, dk_up_n (show ¬ (141 = 146 ∧ 28 = r) by omega), eσ9, dk_up_n (show ¬ (141 = 145 ∧ 28 = r) by omega), eσ7, dk_up_n (show ¬ (141 = 144 ∧ 28 = r) by omega), eσ5, dk_up_s]
        have hz85_147_r : σ28 147 r = 0 := by rw [hfσ28 147 r (by omega), hF98 147 r (by omega), eσ21, dk_up_n (show ¬ (147 = 150 ∧ r = r) by omega), eσ19, dk_up_n (show ¬ (147 = 149 ∧ r = r) by omega), eσ17, dk_up_n (show ¬ (147 = 148 ∧ r = r) by omega), eσ15, dk_up_n (show ¬ (147 = 158 ∧ r = r) by omega), eσ13, dk_up_s]
        have hz86_145_r : σ28 145 r = 0 := by rw [hfσ28 145 r (by omega), hF98 145 r (by omega), eσ21, dk_up_n (show ¬ (145 = 150 ∧ r = r) by omega), eσ19, dk_up_n (show ¬ (145 = 149 ∧ r = r) by omega), eσ17, dk_up_n (show ¬ (145 = 148 ∧ r = r) by omega), eσ15, dk_up_n (show ¬ (145 = 158 ∧ r = r) by omega), eσ13, dk_up_n (show ¬ (145 = 147 ∧ r = r) by omega), eσ11, dk_up_n (show ¬ (145 = 146 ∧ r = r) by omega), eσ9, dk_up_s]
        have hz87_146_r : σ28 146 r = 0 := by rw [hfσ28 146 r (by omega), hF98 146 r (by omega), eσ21, dk_up_n (show ¬ (146 = 150 ∧ r = r) by omega), eσ19, dk_up_n (show ¬ (146 = 149 ∧ r = r) by omega), eσ17, dk_up_n (show ¬ (146 = 148 ∧ r = r) by omega), eσ15, dk_up_n (show ¬ (146 = 158 ∧ r = r) by omega), eσ13, dk_up_n (show ¬ (146 = 147 ∧ r = r) by omega), eσ11, dk_up_s]
        have gi91 : TI r σ28 := TI_fr gi24 (fun k_ j_ h_ => by rw [hfσ28 k_ j_ (by omega)])
        exact lp127 _ σ28 (Nat.lt_succ_self _) (fun k_ j_ h_ => rfl) gi91 (by first | exact H142.1.1.2.1 | exact H124.2.1) (by omega) (by omega) (by omega)
      · skip
        refine dk_aload_n (pc' := 104) hE dX11_works_103 rfl rfl rfl ?_
        refine gf_11_23 (pc' := 107) (w := 156) hE fl_X11_57 dX11_works_104 is_141 rfl rfl ?_
        refine dk_iconst (pc' := 108) hE dX11_works_107 (by decide) rfl ?_
        refine dk_aload_n (pc' := 109) hE dX11_works_108 rfl rfl rfl ?_
        refine gf_11_28 (pc' := 112) hE fl_X11_269 dX11_works_109 is_141 rfl (fun v92 hv92 htv92 hbv92 => ?_)
        have hq92 : r = v92 := (show v92 = r by rw [hv92, hF98 141 28 (by omega), eσ21, dk_up_n (show ¬ (141 = 150 ∧ 28 = r) by omega), hv20]).symm
        subst hq92
        clear htv92 hbv92
        obtain ⟨v93, hv93⟩ : ∃ z : Int, z = 4 * r := ⟨_, rfl⟩
        refine dk_imul (pc' := 113) hE dX11_works_112 hv93.symm (by omega) rfl ?_
        refine dk_iload_n (pc' := 114) hE dX11_works_113 rfl rfl rfl ?_
        obtain ⟨v94, hv94⟩ : ∃ z : Int, z = v93 + i := ⟨_, rfl⟩
        refine dk_iadd (pc' := 115) hE dX11_works_114 hv94.symm (by omega) rfl ?_
        refine dk_iconst (pc' := 116) hE dX11_works_115 (by decide) rfl ?_
        refine pa_84 (pc' := 117) hE dX11_works_116 is_156 (by omega) trivial rfl (fun σ95 eσ95 => ?_)
        obtain ⟨v96, hv96⟩ : ∃ z : Int, z = i + 1 := ⟨_, rfl⟩
        refine dk_iinc (pc' := 120) (ls' := [(4, 141), (0, v96)]) hE dX11_works_117 rfl hv96.symm (by omega) rfl (by decide) rfl ?_
        refine dk_goto (tgt := 98) hE dX11_works_120 (by decide) ?_
        exact ih98 v96 σ95 (by omega) (fun k_ j_ h_ => by rw [eσ95, dk_up_n (show ¬ (k_ = 156 ∧ j_ = v94) from fun q_ => h_ (q_.1)), hF98 k_ j_ (fun w_ => h_ (w_))]) (by omega) (fun w_ a_ b_ => by first | (exfalso; omega) | exact (if c_ : w_ < i then (by rw [eσ95, dk_up_n (by omega)]; exact h156 w_ a_ c_) else (by rw [eσ95, show 4 * r + w_ = v94 by omega, dk_up_s])))
  exact lp98 _ 0 σ21 (Nat.lt_succ_self _) (fun k_ j_ h_ => rfl) (by omega) (fun w_ a_ b_ => by first | (exfalso; omega) | exact (if c_ : w_ < i then (by rw [eσ21, dk_up_n (by omega)]; exact h156 w_ a_ c_) else (by rw [eσ21, show 4 * r + w_ = r by omega, dk_up_s])))
