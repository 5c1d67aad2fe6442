set_option maxHeartbeats 4000000 in
set_option maxRecDepth 20000 in
theorem ct_X11_borne (l : Launch) (G : dkG) (hGd : dk_Gd G) (p r k : Int) : dk_Ct l G dk_Ty yX11_borne cX11_borne 6 (some .int) 4 190 190 (fun av σ => av = [(4, 141), (0, p), (0, r), (0, k)] ∧ (MI σ)) (fun _ σ r_ σ' => ∃ z : Int, r_ = some (0, z) ∧ (∀ k_ j_ : Int, ¬ (False) → σ' k_ j_ = σ k_ j_) ∧ (True)) := by
  refine dk_enter hGd (by decide) (fun av σ hpre hok => ?_)
  obtain ⟨rfl, hG⟩ := hpre
  refine ⟨Nat.le_of_ble_eq_true rfl, fun E hE hR _ => ?_⟩
  have hi_p : dk_i32 p := dk_oki (hok _ (by simp))
  have hi_r : dk_i32 r := dk_oki (hok _ (by simp))
  have hi_k : dk_i32 k := dk_oki (hok _ (by simp))
  show dk_PJ E 0 [(4, 141), (0, p), (0, r), (0, k), (9, 0), (9, 0)] [] 190 σ
  refine dk_aload_n (pc' := 1) hE dX11_borne_0 rfl rfl rfl ?_
  refine dk_iload_n (pc' := 2) hE dX11_borne_1 rfl rfl rfl ?_
  refine dk_cV (pc' := 5) (as := [(0, p)]) hE lk_X11_368 (ct_X11_isNoted l G hGd p) dX11_borne_2 rfl is_141 rfl (by decide) (Nat.le_of_ble_eq_true rfl) rfl rfl (fun r2 σ1 hr2 hor2 => ?_)
  obtain ⟨v3, rfl, hfσ1, hpr2⟩ := hr2
  have hsσ1 : σ = σ1 := (funext (fun k => funext (fun j => hfσ1 k j not_false))).symm
  subst hsσ1
  rcases hpr2 with ⟨rfl, hpr2⟩ | rfl
  · skip
    refine dk_if_eq (tgt := 15) (pc' := 8) hE dX11_borne_5 (by decide) rfl (fun hc4 => absurd hc4 (by decide)) (fun hc4 => ?_)
    refine dk_iload_n (pc' := 9) hE dX11_borne_8 rfl rfl rfl ?_
    refine dk_cS (pc' := 12) (as := [(0, r)]) hE lk_X11_342 (ct_X11_isReader l G hGd r) dX11_borne_9 rfl rfl (by decide) (Nat.le_of_ble_eq_true rfl) rfl rfl (fun r6 σ5 hr6 hor6 => ?_)
    obtain ⟨v7, rfl, hfσ5, hpr6⟩ := hr6
    have hsσ5 : σ = σ5 := (funext (fun k => funext (fun j => hfσ5 k j not_false))).symm
    subst hsσ5
    rcases hpr6 with ⟨rfl, hpr6⟩ | ⟨rfl, hpr6⟩
    · skip
      refine dk_if_ne (tgt := 17) (pc' := 15) hE dX11_borne_12 (by decide) rfl (fun hc8 => ?_) (fun hc8 => absurd hc8 (by decide))
      refine dk_iconst (pc' := 18) hE dX11_borne_17 (by decide) rfl ?_
      refine dk_istore (pc' := 20) (ls' := [(4, 141), (0, p), (0, r), (0, k), (0, 0), (9, 0)]) hE dX11_borne_18 rfl (by decide) rfl ?_
      refine dk_iconst (pc' := 21) hE dX11_borne_20 (by decide) rfl ?_
      refine dk_istore (pc' := 23) (ls' := [(4, 141), (0, p), (0, r), (0, k), (0, 0), (0, 0)]) hE dX11_borne_21 rfl (by decide) rfl ?_
      have lp23 : ∀ (N_ : Nat) (m i : Int) (σ23c : dkS), (2147483648 - i).toNat < N_ → ((∀ k_ j_ : Int, ¬ (False) → σ23c k_ j_ = σ k_ j_)) → (0 ≤ i) → (0 ≤ m ∧ m ≤ i) → dk_PJ E 23 [(4, 141), (0, p), (0, r), (0, k), (0, m), (0, i)] [] 190 σ23c := by
        intro N23
        induction N23 with
        | zero => intro m i σ23c hm; exact absurd hm (Nat.not_lt_zero _)
        | succ N23 ih23 =>
          intro m i σ23c hm23 hF23 hi0 hm
          refine dk_iload (pc' := 25) hE dX11_borne_23 rfl rfl ?_
          refine dk_aload_n (pc' := 26) hE dX11_borne_25 rfl rfl rfl ?_
          refine gf_11_53 (pc' := 29) hE fl_X11_275 dX11_borne_26 is_141 rfl (fun v9 hv9 htv9 hbv9 => ?_)
          refine dk_icmp_ge (tgt := 83) (pc' := 32) hE dX11_borne_29 (by decide) rfl (fun hc10 => ?_) (fun hc10 => ?_)
          · skip
            refine dk_iload (pc' := 85) hE dX11_borne_83 rfl rfl ?_
            exact dk_iret (st := []) hE hR dX11_borne_85 ⟨_, rfl, (fun k_ j_ h_ => by rw [hF23 k_ j_ not_false]), trivial⟩
          · skip
            refine dk_iload (pc' := 34) hE dX11_borne_32 rfl rfl ?_
            refine dk_aload_n (pc' := 35) hE dX11_borne_34 rfl rfl rfl ?_
            refine dk_iload (pc' := 37) hE dX11_borne_35 rfl rfl ?_
            refine dk_iconst (pc' := 38) hE dX11_borne_37 (by decide) rfl ?_
            refine dk_iload_n (pc' := 39) hE dX11_borne_38 rfl rfl rfl ?_
            refine dk_iload_n (pc' := 40) hE dX11_borne_39 rfl rfl rfl ?_
            refine dk_cV (pc' := 43) (as := [(0, i), (0, 4), (0, p), (0, k)]) hE lk_X11_430 (ct_X11_isFact l G hGd i 4 p k) dX11_borne_40 rfl is_141 rfl (by decide) (Nat.le_of_ble_eq_true rfl) ⟨rfl, (by omega)⟩ rfl (fun r12 σ11 hr12 hor12 => ?_)
            have hz13 : σ23c 170 i = σ 170 i := by rw [hF23 170 i not_false]
            obtain ⟨v14, rfl, hfσ11, hpr12⟩ := hr12
            have hsσ11 : σ23c = σ11 := (funext (fun k => funext (fun j => hfσ11 k j not_false))).symm
            subst hsσ11
            rcases hpr12 with ⟨rfl, hpr12⟩ | rfl
            · skip
              refine dk_if_eq (tgt := 73) (pc' := 46) hE dX11_borne_43 (by decide) rfl (fun hc15 => absurd hc15 (by decide)) (fun hc15 => ?_)
              refine dk_aload_n (pc' := 47) hE dX11_borne_46 rfl rfl rfl ?_
              refine dk_iload_n (pc' := 48) hE dX11_borne_47 rfl rfl rfl ?_
              refine dk_aload_n (pc' := 49) hE dX11_borne_48 rfl rfl rfl ?_
              refine gf_11_48 (pc' := 52) (w := 172) hE fl_X11_107 dX11_borne_49 is_141 rfl rfl ?_
              refine dk_iload (pc' := 54) hE dX11_borne_52 rfl rfl ?_
              refine ga_100 (pc' := 55) hE dX11_borne_54 is_172 (by omega) rfl (fun v16 hv16 htv16 hbv16 => ?_)
              have gi17 : MI σ23c := MI_fr hG (fun k_ j_ h_ => by rw [hF23 k_ j_ not_false])
              have gv16 := (gi17).1 i (by omega) (by omega)
              refine dk_iload_n (pc' := 56) hE dX11_borne_55 rfl rfl rfl ?_
              refine dk_cV (pc' := 59) (as := [(0, p), (0, v16), (0, r)]) hE lk_X11_345 (ct_X11_stepAt l G hGd p v16 r) dX11_borne_56 rfl is_141 rfl (by decide) (Nat.le_of_ble_eq_true rfl) ⟨rfl, (by omega), (by omega), (by omega)⟩ rfl (fun r19 σ18 hr19 hor19 => ?_)
              obtain ⟨v20, rfl, hfσ18, hpr19⟩ := hr19
              have hsσ18 : σ23c = σ18 := (funext (fun k => funext (fun j => hfσ18 k j not_false))).symm
              subst hsσ18
              refine dk_aload_n (pc' := 60) hE dX11_borne_59 rfl rfl rfl ?_
              refine gf_11_49 (pc' := 63) (w := 173) hE fl_X11_110 dX11_borne_60 is_141 rfl rfl ?_
              refine dk_iload (pc' := 65) hE dX11_borne_63 rfl rfl ?_
              refine ga_101 (pc' := 66) hE dX11_borne_65 is_173 (by omega) rfl (fun v21 hv21 htv21 hbv21 => ?_)
              refine dk_icmp_ne (tgt := 73) (pc' := 69) hE dX11_borne_66 (by decide) rfl (fun hc22 => ?_) (fun hc22 => ?_)
              · skip
                refine dk_iconst (pc' := 74) hE dX11_borne_73 (by decide) rfl ?_
                obtain ⟨v23, hv23⟩ : ∃ z : Int, z = m + 0 := ⟨_, rfl⟩
                refine dk_iadd (pc' := 75) hE dX11_borne_74 hv23.symm (by omega) rfl ?_
                refine dk_istore (pc' := 77) (ls' := [(4, 141), (0, p), (0, r), (0, k), (0, v23), (0, i)]) hE dX11_borne_75 rfl (by decide) rfl ?_
                obtain ⟨v24, hv24⟩ : ∃ z : Int, z = i + 1 := ⟨_, rfl⟩
                refine dk_iinc (pc' := 80) (ls' := [(4, 141), (0, p), (0, r), (0, k), (0, v23), (0, v24)]) hE dX11_borne_77 rfl hv24.symm (by omega) rfl (by decide) rfl ?_
                refine dk_goto (tgt := 23) hE dX11_borne_80 (by decide) ?_
                exact ih23 v23 v24 σ23c (by omega) (fun k_ j_ h_ => by rw [hF23 k_ j_ not_false]) (by omega) (by omega)
              · skip
                refine dk_iconst (pc' := 70) hE dX11_borne_69 (by decide) rfl ?_
                refine dk_goto (tgt := 74) hE dX11_borne_70 (by decide) ?_
                obtain ⟨v25, hv25⟩ : ∃ z : Int, z = m + 1 := ⟨_, rfl⟩
                refine dk_iadd (pc' := 75) hE dX11_borne_74 hv25.symm (by omega) rfl ?_
                refine dk_istore (pc' := 77) (ls' := [(4, 141), (0, p), (0, r), (0, k), (0, v25), (0, i)]) hE dX11_borne_75 rfl (by decide) rfl ?_
                obtain ⟨v26, hv26⟩ : ∃ z : Int, z = i + 1 := ⟨_, rfl⟩
                refine dk_iinc (pc' := 80) (ls' := [(4, 141), (0, p), (0, r), (0, k), (0, v25), (0, v26)]) hE dX11_borne_77 rfl hv26.symm (by omega) rfl (by decide) rfl ?_
                refine dk_goto (tgt := 23) hE dX11_borne_80 (by decide) ?_
                exact ih23 v25 v26 σ23c (by omega) (fun k_ j_ h_ => by rw [hF23 k_ j_ not_false]) (by omega) (by omega)
            · skip
              refine dk_if_eq (tgt := 73) (pc' := 46) hE dX11_borne_43 (by decide) rfl (fun hc27 => ?_) (fun hc27 => absurd hc27 (by decide))
              refine dk_iconst (pc' := 74) hE dX11_borne_73 (by decide) rfl ?_
              obtain ⟨v28, hv28⟩ : ∃ z : Int, z = m + 0 := ⟨_, rfl⟩
              refine dk_iadd (pc' := 75) hE dX11_borne_74 hv28.symm (by omega) rfl ?_
              refine dk_istore (pc' := 77) (ls' := [(4, 141), (0, p), (0, r), (0, k), (0, v28), (0, i)]) hE dX11_borne_75 rfl (by decide) rfl ?_
              obtain ⟨v29, hv29⟩ : ∃ z : Int, z = i + 1 := ⟨_, rfl⟩
              refine dk_iinc (pc' := 80) (ls' := [(4, 141), (0, p), (0, r), (0, k), (0, v28), (0, v29)]) hE dX11_borne_77 rfl hv29.symm (by omega) rfl (by decide) rfl ?_
              refine dk_goto (tgt := 23) hE dX11_borne_80 (by decide) ?_
              exact ih23 v28 v29 σ23c (by omega) (fun k_ j_ h_ => by rw [hF23 k_ j_ not_false]) (by omega) (by omega)
      exact lp23 _ 0 0 σ (Nat.lt_succ_self _) (fun k_ j_ h_ => rfl) (by omega) (by omega)
    · skip
      refine dk_if_ne (tgt := 17) (pc' := 15) hE dX11_borne_12 (by decide) rfl (fun hc30 => absurd hc30 (by decide)) (fun hc30 => ?_)
      refine dk_iconst (pc' := 16) hE dX11_borne_15 (by decide) rfl ?_
      exact dk_iret (st := []) hE hR dX11_borne_16 ⟨_, rfl, (fun k_ j_ h_ => rfl), trivial⟩
  · skip
    refine dk_if_eq (tgt := 15) (pc' := 8) hE dX11_borne_5 (by decide) rfl (fun hc31 => ?_) (fun hc31 => absurd hc31 (by decide))
    refine dk_iconst (pc' := 16) hE dX11_borne_15 (by decide) rfl ?_
    exact dk_iret (st := []) hE hR dX11_borne_16 ⟨_, rfl, (fun k_ j_ h_ => rfl), trivial⟩
set_option maxHeartbeats 4000000 in
set_option maxRecDepth 20000 in
theorem ct_X11_knowsIt (l : Launch) (G : dkG) (hGd : dk_Gd G) (b p d k : Int) : dk_Ct l G dk_Ty yX11_knowsIt cX11_knowsIt 6 (some .boolean) 2 190 190 (fun av σ => av = [(4, 141), (0, b), (0, p), (0, d), (0, k)]) (fun _ σ r_ σ' => ∃ z : Int, r_ = some (0, z) ∧ (∀ k_ j_ : Int, ¬ (False) → σ' k_ j_ = σ k_ j_) ∧ (0 ≤ z ∧ z ≤ 1)) := by
  refine dk_enter hGd (by decide) (fun av σ hpre hok => ?_)
  subst hpre
  refine ⟨Nat.le_of_ble_eq_true rfl, fun E hE hR _ => ?_⟩
  have hi_b : dk_i32 b := dk_oki (hok _ (by simp))
  have hi_p : dk_i32 p := dk_oki (hok _ (by simp))
  have hi_d : dk_i32 d := dk_oki (hok _ (by simp))
  have hi_k : dk_i32 k := dk_oki (hok _ (by simp))
  show dk_PJ E 0 [(4, 141), (0, b), (0, p), (0, d), (0, k), (9, 0)] [] 190 σ
  refine dk_iconst (pc' := 1) hE dX11_knowsIt_0 (by decide) rfl ?_
  refine dk_istore (pc' := 3) (ls' := [(4, 141), (0, b), (0, p), (0, d), (0, k), (0, 0)]) hE dX11_knowsIt_1 rfl (by decide) rfl ?_
  have lp3 : ∀ (N_ : Nat) (i : Int) (σ3c : dkS), (2147483648 - i).toNat < N_ → ((∀ k_ j_ : Int, ¬ (False) → σ3c k_ j_ = σ k_ j_)) → (0 ≤ i) → dk_PJ E 3 [(4, 141), (0, b), (0, p), (0, d), (0, k), (0, i)] [] 190 σ3c := by
    intro N3
    induction N3 with
    | zero => intro i σ3c hm; exact absurd hm (Nat.not_lt_zero _)
    | succ N3 ih3 =>
      intro i σ3c hm3 hF3 hi0
      refine dk_iload (pc' := 5) hE dX11_knowsIt_3 rfl rfl ?_
      refine dk_aload_n (pc' := 6) hE dX11_knowsIt_5 rfl rfl rfl ?_
      refine gf_11_53 (pc' := 9) hE fl_X11_275 dX11_knowsIt_6 is_141 rfl (fun v1 hv1 htv1 hbv1 => ?_)
      refine dk_icmp_ge (tgt := 55) (pc' := 12) hE dX11_knowsIt_9 (by decide) rfl (fun hc2 => ?_) (fun hc2 => ?_)
      · skip
        refine dk_iconst (pc' := 56) hE dX11_knowsIt_55 (by decide) rfl ?_
        exact dk_zret (st := []) hE hR dX11_knowsIt_56 (by omega) ⟨_, rfl, (fun k_ j_ h_ => by rw [hF3 k_ j_ not_false]), by omega⟩
      · skip
        refine dk_aload_n (pc' := 13) hE dX11_knowsIt_12 rfl rfl rfl ?_
        refine dk_iload (pc' := 15) hE dX11_knowsIt_13 rfl rfl ?_
        refine dk_iconst (pc' := 16) hE dX11_knowsIt_15 (by decide) rfl ?_
        refine dk_iload_n (pc' := 17) hE dX11_knowsIt_16 rfl rfl rfl ?_
        refine dk_iload (pc' := 19) hE dX11_knowsIt_17 rfl rfl ?_
        refine dk_cV (pc' := 22) (as := [(0, i), (0, 0), (0, b), (0, k)]) hE lk_X11_430 (ct_X11_isFact l G hGd i 0 b k) dX11_knowsIt_19 rfl is_141 rfl (by decide) (Nat.le_of_ble_eq_true rfl) ⟨rfl, (by omega)⟩ rfl (fun r4 σ3 hr4 hor4 => ?_)
        have hz5 : σ3c 170 i = σ 170 i := by rw [hF3 170 i not_false]
        obtain ⟨v6, rfl, hfσ3, hpr4⟩ := hr4
        have hsσ3 : σ3c = σ3 := (funext (fun k => funext (fun j => hfσ3 k j not_false))).symm
        subst hsσ3
        rcases hpr4 with ⟨rfl, hpr4⟩ | rfl
        · skip
          refine dk_if_eq (tgt := 49) (pc' := 25) hE dX11_knowsIt_22 (by decide) rfl (fun hc7 => absurd hc7 (by decide)) (fun hc7 => ?_)
          refine dk_aload_n (pc' := 26) hE dX11_knowsIt_25 rfl rfl rfl ?_
          refine gf_11_48 (pc' := 29) (w := 172) hE fl_X11_107 dX11_knowsIt_26 is_141 rfl rfl ?_
          refine dk_iload (pc' := 31) hE dX11_knowsIt_29 rfl rfl ?_
          refine ga_100 (pc' := 32) hE dX11_knowsIt_31 is_172 (by omega) rfl (fun v8 hv8 htv8 hbv8 => ?_)
          refine dk_iload_n (pc' := 33) hE dX11_knowsIt_32 rfl rfl rfl ?_
          refine dk_icmp_ne (tgt := 49) (pc' := 36) hE dX11_knowsIt_33 (by decide) rfl (fun hc9 => ?_) (fun hc9 => ?_)
          · skip
            obtain ⟨v10, hv10⟩ : ∃ z : Int, z = i + 1 := ⟨_, rfl⟩
            refine dk_iinc (pc' := 52) (ls' := [(4, 141), (0, b), (0, p), (0, d), (0, k), (0, v10)]) hE dX11_knowsIt_49 rfl hv10.symm (by omega) rfl (by decide) rfl ?_
            refine dk_goto (tgt := 3) hE dX11_knowsIt_52 (by decide) ?_
            exact ih3 v10 σ3c (by omega) (fun k_ j_ h_ => by rw [hF3 k_ j_ not_false]) (by omega)
          · skip
            refine dk_aload_n (pc' := 37) hE dX11_knowsIt_36 rfl rfl rfl ?_
            refine gf_11_49 (pc' := 40) (w := 173) hE fl_X11_110 dX11_knowsIt_37 is_141 rfl rfl ?_
            refine dk_iload (pc' := 42) hE dX11_knowsIt_40 rfl rfl ?_
            refine ga_101 (pc' := 43) hE dX11_knowsIt_42 is_173 (by omega) rfl (fun v11 hv11 htv11 hbv11 => ?_)
            refine dk_iload_n (pc' := 44) hE dX11_knowsIt_43 rfl rfl rfl ?_
            refine dk_icmp_gt (tgt := 49) (pc' := 47) hE dX11_knowsIt_44 (by decide) rfl (fun hc12 => ?_) (fun hc12 => ?_)
            · skip
              obtain ⟨v13, hv13⟩ : ∃ z : Int, z = i + 1 := ⟨_, rfl⟩
              refine dk_iinc (pc' := 52) (ls' := [(4, 141), (0, b), (0, p), (0, d), (0, k), (0, v13)]) hE dX11_knowsIt_49 rfl hv13.symm (by omega) rfl (by decide) rfl ?_
              refine dk_goto (tgt := 3) hE dX11_knowsIt_52 (by decide) ?_
              exact ih3 v13 σ3c (by omega) (fun k_ j_ h_ => by rw [hF3 k_ j_ not_false]) (by omega)
            · skip
              refine dk_iconst (pc' := 48) hE dX11_knowsIt_47 (by decide) rfl ?_
              exact dk_zret (st := []) hE hR dX11_knowsIt_48 (by omega) ⟨_, rfl, (fun k_ j_ h_ => by rw [hF3 k_ j_ not_false]), by omega⟩
        · skip
          refine dk_if_eq (tgt := 49) (pc' := 25) hE dX11_knowsIt_22 (by decide) rfl (fun hc14 => ?_) (fun hc14 => absurd hc14 (by decide))
          obtain ⟨v15, hv15⟩ : ∃ z : Int, z = i + 1 := ⟨_, rfl⟩
          refine dk_iinc (pc' := 52) (ls' := [(4, 141), (0, b), (0, p), (0, d), (0, k), (0, v15)]) hE dX11_knowsIt_49 rfl hv15.symm (by omega) rfl (by decide) rfl ?_
          refine dk_goto (tgt := 3) hE dX11_knowsIt_52 (by decide) ?_
          exact ih3 v15 σ3c (by omega) (fun k_ j_ h_ => by rw [hF3 k_ j_ not_false]) (by omega)
  exact lp3 _ 0 σ (Nat.lt_succ_self _) (fun k_ j_ h_ => rfl) (by omega)
set_option maxHeartbeats 4000000 in
set_option maxRecDepth 20000 in
theorem ct_X11_isOut (l : Launch) (G : dkG) (hGd : dk_Gd G) (b d k : Int) : dk_Ct l G dk_Ty yX11_isOut cX11_isOut 5 (some .boolean) 2 190 190 (fun av σ => av = [(4, 141), (0, b), (0, d), (0, k)]) (fun _ σ r_ σ' => ∃ z : Int, r_ = some (0, z) ∧ (∀ k_ j_ : Int, ¬ (False) → σ' k_ j_ = σ k_ j_) ∧ (0 ≤ z ∧ z ≤ 1)) := by
  refine dk_enter hGd (by decide) (fun av σ hpre hok => ?_)
  subst hpre
  refine ⟨Nat.le_of_ble_eq_true rfl, fun E hE hR _ => ?_⟩
  have hi_b : dk_i32 b := dk_oki (hok _ (by simp))
  have hi_d : dk_i32 d := dk_oki (hok _ (by simp))
  have hi_k : dk_i32 k := dk_oki (hok _ (by simp))
  show dk_PJ E 0 [(4, 141), (0, b), (0, d), (0, k), (9, 0)] [] 190 σ
  refine dk_iconst (pc' := 1) hE dX11_isOut_0 (by decide) rfl ?_
  refine dk_istore (pc' := 3) (ls' := [(4, 141), (0, b), (0, d), (0, k), (0, 0)]) hE dX11_isOut_1 rfl (by decide) rfl ?_
  have lp3 : ∀ (N_ : Nat) (i : Int) (σ3c : dkS), (2147483648 - i).toNat < N_ → ((∀ k_ j_ : Int, ¬ (False) → σ3c k_ j_ = σ k_ j_)) → (0 ≤ i) → dk_PJ E 3 [(4, 141), (0, b), (0, d), (0, k), (0, i)] [] 190 σ3c := by
    intro N3
    induction N3 with
    | zero => intro i σ3c hm; exact absurd hm (Nat.not_lt_zero _)
    | succ N3 ih3 =>
      intro i σ3c hm3 hF3 hi0
      refine dk_iload (pc' := 5) hE dX11_isOut_3 rfl rfl ?_
      refine dk_aload_n (pc' := 6) hE dX11_isOut_5 rfl rfl rfl ?_
      refine gf_11_53 (pc' := 9) hE fl_X11_275 dX11_isOut_6 is_141 rfl (fun v1 hv1 htv1 hbv1 => ?_)
      refine dk_icmp_ge (tgt := 54) (pc' := 12) hE dX11_isOut_9 (by decide) rfl (fun hc2 => ?_) (fun hc2 => ?_)
      · skip
        refine dk_iconst (pc' := 55) hE dX11_isOut_54 (by decide) rfl ?_
        exact dk_zret (st := []) hE hR dX11_isOut_55 (by omega) ⟨_, rfl, (fun k_ j_ h_ => by rw [hF3 k_ j_ not_false]), by omega⟩
      · skip
        refine dk_aload_n (pc' := 13) hE dX11_isOut_12 rfl rfl rfl ?_
        refine dk_iload (pc' := 15) hE dX11_isOut_13 rfl rfl ?_
        refine dk_iconst (pc' := 16) hE dX11_isOut_15 (by decide) rfl ?_
        refine dk_iload_n (pc' := 17) hE dX11_isOut_16 rfl rfl rfl ?_
        refine dk_iload_n (pc' := 18) hE dX11_isOut_17 rfl rfl rfl ?_
        refine dk_cV (pc' := 21) (as := [(0, i), (0, 2), (0, b), (0, k)]) hE lk_X11_430 (ct_X11_isFact l G hGd i 2 b k) dX11_isOut_18 rfl is_141 rfl (by decide) (Nat.le_of_ble_eq_true rfl) ⟨rfl, (by omega)⟩ rfl (fun r4 σ3 hr4 hor4 => ?_)
        have hz5 : σ3c 170 i = σ 170 i := by rw [hF3 170 i not_false]
        obtain ⟨v6, rfl, hfσ3, hpr4⟩ := hr4
        have hsσ3 : σ3c = σ3 := (funext (fun k => funext (fun j => hfσ3 k j not_false))).symm
        subst hsσ3
        rcases hpr4 with ⟨rfl, hpr4⟩ | rfl
        · skip
          refine dk_if_eq (tgt := 48) (pc' := 24) hE dX11_isOut_21 (by decide) rfl (fun hc7 => absurd hc7 (by decide)) (fun hc7 => ?_)
          refine dk_aload_n (pc' := 25) hE dX11_isOut_24 rfl rfl rfl ?_
          refine gf_11_48 (pc' := 28) (w := 172) hE fl_X11_107 dX11_isOut_25 is_141 rfl rfl ?_
          refine dk_iload (pc' := 30) hE dX11_isOut_28 rfl rfl ?_
          refine ga_100 (pc' := 31) hE dX11_isOut_30 is_172 (by omega) rfl (fun v8 hv8 htv8 hbv8 => ?_)
          refine dk_iload_n (pc' := 32) hE dX11_isOut_31 rfl rfl rfl ?_
          refine dk_icmp_gt (tgt := 48) (pc' := 35) hE dX11_isOut_32 (by decide) rfl (fun hc9 => ?_) (fun hc9 => ?_)
          · skip
            obtain ⟨v10, hv10⟩ : ∃ z : Int, z = i + 1 := ⟨_, rfl⟩
            refine dk_iinc (pc' := 51) (ls' := [(4, 141), (0, b), (0, d), (0, k), (0, v10)]) hE dX11_isOut_48 rfl hv10.symm (by omega) rfl (by decide) rfl ?_
            refine dk_goto (tgt := 3) hE dX11_isOut_51 (by decide) ?_
            exact ih3 v10 σ3c (by omega) (fun k_ j_ h_ => by rw [hF3 k_ j_ not_false]) (by omega)
          · skip
            refine dk_aload_n (pc' := 36) hE dX11_isOut_35 rfl rfl rfl ?_
            refine gf_11_49 (pc' := 39) (w := 173) hE fl_X11_110 dX11_isOut_36 is_141 rfl rfl ?_
            refine dk_iload (pc' := 41) hE dX11_isOut_39 rfl rfl ?_
            refine ga_101 (pc' := 42) hE dX11_isOut_41 is_173 (by omega) rfl (fun v11 hv11 htv11 hbv11 => ?_)
            refine dk_iload_n (pc' := 43) hE dX11_isOut_42 rfl rfl rfl ?_
            refine dk_icmp_lt (tgt := 48) (pc' := 46) hE dX11_isOut_43 (by decide) rfl (fun hc12 => ?_) (fun hc12 => ?_)
            · skip
              obtain ⟨v13, hv13⟩ : ∃ z : Int, z = i + 1 := ⟨_, rfl⟩
              refine dk_iinc (pc' := 51) (ls' := [(4, 141), (0, b), (0, d), (0, k), (0, v13)]) hE dX11_isOut_48 rfl hv13.symm (by omega) rfl (by decide) rfl ?_
              refine dk_goto (tgt := 3) hE dX11_isOut_51 (by decide) ?_
              exact ih3 v13 σ3c (by omega) (fun k_ j_ h_ => by rw [hF3 k_ j_ not_false]) (by omega)
            · skip
              refine dk_iconst (pc' := 47) hE dX11_isOut_46 (by decide) rfl ?_
              exact dk_zret (st := []) hE hR dX11_isOut_47 (by omega) ⟨_, rfl, (fun k_ j_ h_ => by rw [hF3 k_ j_ not_false]), by omega⟩
        · skip
          refine dk_if_eq (tgt := 48) (pc' := 24) hE dX11_isOut_21 (by decide) rfl (fun hc14 => ?_) (fun hc14 => absurd hc14 (by decide))
          obtain ⟨v15, hv15⟩ : ∃ z : Int, z = i + 1 := ⟨_, rfl⟩
          refine dk_iinc (pc' := 51) (ls' := [(4, 141), (0, b), (0, d), (0, k), (0, v15)]) hE dX11_isOut_48 rfl hv15.symm (by omega) rfl (by decide) rfl ?_
          refine dk_goto (tgt := 3) hE dX11_isOut_51 (by decide) ?_
          exact ih3 v15 σ3c (by omega) (fun k_ j_ h_ => by rw [hF3 k_ j_ not_false]) (by omega)
  exact lp3 _ 0 σ (Nat.lt_succ_self _) (fun k_ j_ h_ => rfl) (by omega)
set_option maxHeartbeats 4000000 in
set_option maxRecDepth 20000 in
theorem ct_X11_isGone (l : Launch) (G : dkG) (hGd : dk_Gd G) (b d k : Int) : dk_Ct l G dk_Ty yX11_isGone cX11_isGone 5 (some .boolean) 2 190 190 (fun av σ => av = [(4, 141), (0, b), (0, d), (0, k)]) (fun _ σ r_ σ' => ∃ z : Int, r_ = some (0, z) ∧ (∀ k_ j_ : Int, ¬ (False) → σ' k_ j_ = σ k_ j_) ∧ (0 ≤ z ∧ z ≤ 1)) := by
  refine dk_enter hGd (by decide) (fun av σ hpre hok => ?_)
  subst hpre
  refine ⟨Nat.le_of_ble_eq_true rfl, fun E hE hR _ => ?_⟩
  have hi_b : dk_i32 b := dk_oki (hok _ (by simp))
  have hi_d : dk_i32 d := dk_oki (hok _ (by simp))
  have hi_k : dk_i32 k := dk_oki (hok _ (by simp))
  show dk_PJ E 0 [(4, 141), (0, b), (0, d), (0, k), (9, 0)] [] 190 σ
  refine dk_iconst (pc' := 1) hE dX11_isGone_0 (by decide) rfl ?_
  refine dk_istore (pc' := 3) (ls' := [(4, 141), (0, b), (0, d), (0, k), (0, 0)]) hE dX11_isGone_1 rfl (by decide) rfl ?_
  have lp3 : ∀ (N_ : Nat) (i : Int) (σ3c : dkS), (2147483648 - i).toNat < N_ → ((∀ k_ j_ : Int, ¬ (False) → σ3c k_ j_ = σ k_ j_)) → (0 ≤ i) → dk_PJ E 3 [(4, 141), (0, b), (0, d), (0, k), (0, i)] [] 190 σ3c := by
    intro N3
    induction N3 with
    | zero => intro i σ3c hm; exact absurd hm (Nat.not_lt_zero _)
    | succ N3 ih3 =>
      intro i σ3c hm3 hF3 hi0
      refine dk_iload (pc' := 5) hE dX11_isGone_3 rfl rfl ?_
      refine dk_aload_n (pc' := 6) hE dX11_isGone_5 rfl rfl rfl ?_
      refine gf_11_53 (pc' := 9) hE fl_X11_275 dX11_isGone_6 is_141 rfl (fun v1 hv1 htv1 hbv1 => ?_)
      refine dk_icmp_ge (tgt := 43) (pc' := 12) hE dX11_isGone_9 (by decide) rfl (fun hc2 => ?_) (fun hc2 => ?_)
      · skip
        refine dk_iconst (pc' := 44) hE dX11_isGone_43 (by decide) rfl ?_
        exact dk_zret (st := []) hE hR dX11_isGone_44 (by omega) ⟨_, rfl, (fun k_ j_ h_ => by rw [hF3 k_ j_ not_false]), by omega⟩
      · skip
        refine dk_aload_n (pc' := 13) hE dX11_isGone_12 rfl rfl rfl ?_
        refine dk_iload (pc' := 15) hE dX11_isGone_13 rfl rfl ?_
        refine dk_iconst (pc' := 16) hE dX11_isGone_15 (by decide) rfl ?_
        refine dk_iload_n (pc' := 17) hE dX11_isGone_16 rfl rfl rfl ?_
        refine dk_iload_n (pc' := 18) hE dX11_isGone_17 rfl rfl rfl ?_
        refine dk_cV (pc' := 21) (as := [(0, i), (0, 3), (0, b), (0, k)]) hE lk_X11_430 (ct_X11_isFact l G hGd i 3 b k) dX11_isGone_18 rfl is_141 rfl (by decide) (Nat.le_of_ble_eq_true rfl) ⟨rfl, (by omega)⟩ rfl (fun r4 σ3 hr4 hor4 => ?_)
        have hz5 : σ3c 170 i = σ 170 i := by rw [hF3 170 i not_false]
        obtain ⟨v6, rfl, hfσ3, hpr4⟩ := hr4
        have hsσ3 : σ3c = σ3 := (funext (fun k => funext (fun j => hfσ3 k j not_false))).symm
        subst hsσ3
        rcases hpr4 with ⟨rfl, hpr4⟩ | rfl
        · skip
          refine dk_if_eq (tgt := 37) (pc' := 24) hE dX11_isGone_21 (by decide) rfl (fun hc7 => absurd hc7 (by decide)) (fun hc7 => ?_)
          refine dk_aload_n (pc' := 25) hE dX11_isGone_24 rfl rfl rfl ?_
          refine gf_11_48 (pc' := 28) (w := 172) hE fl_X11_107 dX11_isGone_25 is_141 rfl rfl ?_
          refine dk_iload (pc' := 30) hE dX11_isGone_28 rfl rfl ?_
          refine ga_100 (pc' := 31) hE dX11_isGone_30 is_172 (by omega) rfl (fun v8 hv8 htv8 hbv8 => ?_)
          refine dk_iload_n (pc' := 32) hE dX11_isGone_31 rfl rfl rfl ?_
          refine dk_icmp_gt (tgt := 37) (pc' := 35) hE dX11_isGone_32 (by decide) rfl (fun hc9 => ?_) (fun hc9 => ?_)
          · skip
            obtain ⟨v10, hv10⟩ : ∃ z : Int, z = i + 1 := ⟨_, rfl⟩
            refine dk_iinc (pc' := 40) (ls' := [(4, 141), (0, b), (0, d), (0, k), (0, v10)]) hE dX11_isGone_37 rfl hv10.symm (by omega) rfl (by decide) rfl ?_
            refine dk_goto (tgt := 3) hE dX11_isGone_40 (by decide) ?_
            exact ih3 v10 σ3c (by omega) (fun k_ j_ h_ => by rw [hF3 k_ j_ not_false]) (by omega)
          · skip
            refine dk_iconst (pc' := 36) hE dX11_isGone_35 (by decide) rfl ?_
            exact dk_zret (st := []) hE hR dX11_isGone_36 (by omega) ⟨_, rfl, (fun k_ j_ h_ => by rw [hF3 k_ j_ not_false]), by omega⟩
        · skip
          refine dk_if_eq (tgt := 37) (pc' := 24) hE dX11_isGone_21 (by decide) rfl (fun hc11 => ?_) (fun hc11 => absurd hc11 (by decide))
          obtain ⟨v12, hv12⟩ : ∃ z : Int, z = i + 1 := ⟨_, rfl⟩
          refine dk_iinc (pc' := 40) (ls' := [(4, 141), (0, b), (0, d), (0, k), (0, v12)]) hE dX11_isGone_37 rfl hv12.symm (by omega) rfl (by decide) rfl ?_
          refine dk_goto (tgt := 3) hE dX11_isGone_40 (by decide) ?_
          exact ih3 v12 σ3c (by omega) (fun k_ j_ h_ => by rw [hF3 k_ j_ not_false]) (by omega)
  exact lp3 _ 0 σ (Nat.lt_succ_self _) (fun k_ j_ h_ => rfl) (by omega)
set_option maxHeartbeats 4000000 in
set_option maxRecDepth 20000 in
theorem ct_X11_ask (l : Launch) (G : dkG) (hGd : dk_Gd G) (b p d k : Int) : dk_Ct l G dk_Ty yX11_ask cX11_ask 8 (none) 4 190 190 (fun av σ => av = [(4, 141), (0, b), (0, p), (0, d), (0, k)] ∧ (MI σ) ∧ (0 ≤ p ∧ p < 12)) (fun _ σ r_ σ' => r_ = none ∧ (∀ k_ j_ : Int, ¬ ((k_ = 141 ∧ j_ = 55) ∨ (k_ = 141 ∧ j_ = 56) ∨ (k_ = 141 ∧ j_ = 57) ∨ (k_ = 141 ∧ j_ = 58) ∨ (k_ = 141 ∧ j_ = 59) ∨ (k_ = 141 ∧ j_ = 60) ∨ (k_ = 141 ∧ j_ = 61)) → σ' k_ j_ = σ k_ j_) ∧ (True)) := by
  refine dk_enter hGd (by decide) (fun av σ hpre hok => ?_)
  obtain ⟨rfl, hG, hp⟩ := hpre
  refine ⟨Nat.le_of_ble_eq_true rfl, fun E hE hR _ => ?_⟩
  have hi_b : dk_i32 b := dk_oki (hok _ (by simp))
  have hi_p : dk_i32 p := dk_oki (hok _ (by simp))
  have hi_d : dk_i32 d := dk_oki (hok _ (by simp))
  have hi_k : dk_i32 k := dk_oki (hok _ (by simp))
  show dk_PJ E 0 [(4, 141), (0, b), (0, p), (0, d), (0, k), (9, 0), (9, 0), (9, 0)] [] 190 σ
  refine dk_aload_n (pc' := 1) hE dX11_ask_0 rfl rfl rfl ?_
  refine dk_iload_n (pc' := 2) hE dX11_ask_1 rfl rfl rfl ?_
  refine pf_11_55 (pc' := 5) hE fl_X11_434 dX11_ask_2 is_141 trivial rfl (fun σ1 eσ1 => ?_)
  refine dk_aload_n (pc' := 6) hE dX11_ask_5 rfl rfl rfl ?_
  refine dk_iload_n (pc' := 7) hE dX11_ask_6 rfl rfl rfl ?_
  refine pf_11_56 (pc' := 10) hE fl_X11_437 dX11_ask_7 is_141 (by omega) rfl (fun σ2 eσ2 => ?_)
  refine dk_aload_n (pc' := 11) hE dX11_ask_10 rfl rfl rfl ?_
  refine dk_iload_n (pc' := 12) hE dX11_ask_11 rfl rfl rfl ?_
  refine pf_11_61 (pc' := 15) hE fl_X11_440 dX11_ask_12 is_141 trivial rfl (fun σ3 eσ3 => ?_)
  refine dk_aload_n (pc' := 16) hE dX11_ask_15 rfl rfl rfl ?_
  refine dk_sipush (pc' := 19) hE dX11_ask_16 (by decide) rfl ?_
  refine pf_11_57 (pc' := 22) hE fl_X11_443 dX11_ask_19 is_141 trivial rfl (fun σ4 eσ4 => ?_)
  refine dk_aload_n (pc' := 23) hE dX11_ask_22 rfl rfl rfl ?_
  refine dk_sipush (pc' := 26) hE dX11_ask_23 (by decide) rfl ?_
  refine pf_11_58 (pc' := 29) hE fl_X11_446 dX11_ask_26 is_141 trivial rfl (fun σ5 eσ5 => ?_)
  refine dk_aload_n (pc' := 30) hE dX11_ask_29 rfl rfl rfl ?_
  refine dk_iconst (pc' := 31) hE dX11_ask_30 (by decide) rfl ?_
  refine pf_11_59 (pc' := 34) hE fl_X11_449 dX11_ask_31 is_141 trivial rfl (fun σ6 eσ6 => ?_)
  refine dk_aload_n (pc' := 35) hE dX11_ask_34 rfl rfl rfl ?_
  refine dk_sipush (pc' := 38) hE dX11_ask_35 (by decide) rfl ?_
  refine pf_11_60 (pc' := 41) hE fl_X11_452 dX11_ask_38 is_141 trivial rfl (fun σ7 eσ7 => ?_)
  refine dk_iconst (pc' := 42) hE dX11_ask_41 (by decide) rfl ?_
  refine dk_istore (pc' := 44) (ls' := [(4, 141), (0, b), (0, p), (0, d), (0, k), (0, (-1)), (9, 0), (9, 0)]) hE dX11_ask_42 rfl (by decide) rfl ?_
  refine dk_iconst (pc' := 45) hE dX11_ask_44 (by decide) rfl ?_
  refine dk_istore (pc' := 47) (ls' := [(4, 141), (0, b), (0, p), (0, d), (0, k), (0, (-1)), (0, 0), (9, 0)]) hE dX11_ask_45 rfl (by decide) rfl ?_
  have lp47 : ∀ (N_ : Nat) (m i : Int) (σ47c : dkS), (2147483648 - i).toNat < N_ → ((∀ k_ j_ : Int, ¬ ((k_ = 141 ∧ j_ = 57) ∨ (k_ = 141 ∧ j_ = 58) ∨ (k_ = 141 ∧ j_ = 59) ∨ (k_ = 141 ∧ j_ = 60)) → σ47c k_ j_ = σ7 k_ j_)) → (0 ≤ i) → dk_PJ E 47 [(4, 141), (0, b), (0, p), (0, d), (0, k), (0, m), (0, i), (9, 0)] [] 190 σ47c := by
    intro N47
    induction N47 with
    | zero => intro m i σ47c hm; exact absurd hm (Nat.not_lt_zero _)
    | succ N47 ih47 =>
      intro m i σ47c hm47 hF47 hi0
      refine dk_iload (pc' := 49) hE dX11_ask_47 rfl rfl ?_
      refine dk_aload_n (pc' := 50) hE dX11_ask_49 rfl rfl rfl ?_
      refine gf_11_53 (pc' := 53) hE fl_X11_275 dX11_ask_50 is_141 rfl (fun v8 hv8 htv8 hbv8 => ?_)
      have hq8 : v8 = σ 141 53 := by rw [hv8, hF47 141 53 (by omega), eσ7, dk_up_n (show ¬ (141 = 141 ∧ 53 = 60) by omega), eσ6, dk_up_n (show ¬ (141 = 141 ∧ 53 = 59) by omega), eσ5, dk_up_n (show ¬ (141 = 141 ∧ 53 = 58) by omega), eσ4, dk_up_n (show ¬ (141 = 141 ∧ 53 = 57) by omega), eσ3, dk_up_n (show ¬ (141 = 141 ∧ 53 = 61) by omega), eσ2, dk_up_n (show ¬ (141 = 141 ∧ 53 = 56) by omega), eσ1, dk_up_n (show ¬ (141 = 141 ∧ 53 = 55) by omega)]
      refine dk_icmp_ge (tgt := 223) (pc' := 56) hE dX11_ask_53 (by decide) rfl (fun hc9 => ?_) (fun hc9 => ?_)
      · skip
        refine dk_aload_n (pc' := 224) hE dX11_ask_223 rfl rfl rfl ?_
        refine dk_iload (pc' := 226) hE dX11_ask_224 rfl rfl ?_
        refine dk_if_ge (tgt := 235) (pc' := 229) hE dX11_ask_226 (by decide) rfl (fun hc10 => ?_) (fun hc10 => ?_)
        · skip
          refine dk_iload (pc' := 237) hE dX11_ask_235 rfl rfl ?_
          refine pf_11_57 (pc' := 240) hE fl_X11_443 dX11_ask_237 is_141 trivial rfl (fun σ11 eσ11 => ?_)
          exact dk_vret (st := []) hE hR dX11_ask_240 ⟨rfl, (fun k_ j_ h_ => by rw [eσ11, dk_up_n (show ¬ (k_ = 141 ∧ j_ = 57) from fun q_ => h_ (Or.inr (Or.inr (Or.inl (q_))))), hF47 k_ j_ (fun w_ => h_ (w_.elim (fun x0_ => Or.inr (Or.inr (Or.inl (x0_)))) (fun y0_ => y0_.elim (fun x1_ => Or.inr (Or.inr (Or.inr (Or.inl (x1_))))) (fun y1_ => y1_.elim (fun x2_ => Or.inr (Or.inr (Or.inr (Or.inr (Or.inl (x2_)))))) (fun y2_ => Or.inr (Or.inr (Or.inr (Or.inr (Or.inr (Or.inl (y2_))))))))))), eσ7, dk_up_n (show ¬ (k_ = 141 ∧ j_ = 60) from fun q_ => h_ (Or.inr (Or.inr (Or.inr (Or.inr (Or.inr (Or.inl (q_)))))))), eσ6, dk_up_n (show ¬ (k_ = 141 ∧ j_ = 59) from fun q_ => h_ (Or.inr (Or.inr (Or.inr (Or.inr (Or.inl (q_))))))), eσ5, dk_up_n (show ¬ (k_ = 141 ∧ j_ = 58) from fun q_ => h_ (Or.inr (Or.inr (Or.inr (Or.inl (q_)))))), eσ4, dk_up_n (show ¬ (k_ = 141 ∧ j_ = 57) from fun q_ => h_ (Or.inr (Or.inr (Or.inl (q_))))), eσ3, dk_up_n (show ¬ (k_ = 141 ∧ j_ = 61) from fun q_ => h_ (Or.inr (Or.inr (Or.inr (Or.inr (Or.inr (Or.inr (q_)))))))), eσ2, dk_up_n (show ¬ (k_ = 141 ∧ j_ = 56) from fun q_ => h_ (Or.inr (Or.inl (q_)))), eσ1, dk_up_n (show ¬ (k_ = 141 ∧ j_ = 55) from fun q_ => h_ (Or.inl (q_)))]), trivial⟩
        · skip
          refine dk_sipush (pc' := 232) hE dX11_ask_229 (by decide) rfl ?_
          refine dk_goto (tgt := 237) hE dX11_ask_232 (by decide) ?_
          refine pf_11_57 (pc' := 240) hE fl_X11_443 dX11_ask_237 is_141 trivial rfl (fun σ12 eσ12 => ?_)
          exact dk_vret (st := []) hE hR dX11_ask_240 ⟨rfl, (fun k_ j_ h_ => by rw [eσ12, dk_up_n (show ¬ (k_ = 141 ∧ j_ = 57) from fun q_ => h_ (Or.inr (Or.inr (Or.inl (q_))))), hF47 k_ j_ (fun w_ => h_ (w_.elim (fun x0_ => Or.inr (Or.inr (Or.inl (x0_)))) (fun y0_ => y0_.elim (fun x1_ => Or.inr (Or.inr (Or.inr (Or.inl (x1_))))) (fun y1_ => y1_.elim (fun x2_ => Or.inr (Or.inr (Or.inr (Or.inr (Or.inl (x2_)))))) (fun y2_ => Or.inr (Or.inr (Or.inr (Or.inr (Or.inr (Or.inl (y2_))))))))))), eσ7, dk_up_n (show ¬ (k_ = 141 ∧ j_ = 60) from fun q_ => h_ (Or.inr (Or.inr (Or.inr (Or.inr (Or.inr (Or.inl (q_)))))))), eσ6, dk_up_n (show ¬ (k_ = 141 ∧ j_ = 59) from fun q_ => h_ (Or.inr (Or.inr (Or.inr (Or.inr (Or.inl (q_))))))), eσ5, dk_up_n (show ¬ (k_ = 141 ∧ j_ = 58) from fun q_ => h_ (Or.inr (Or.inr (Or.inr (Or.inl (q_)))))), eσ4, dk_up_n (show ¬ (k_ = 141 ∧ j_ = 57) from fun q_ => h_ (Or.inr (Or.inr (Or.inl (q_))))), eσ3, dk_up_n (show ¬ (k_ = 141 ∧ j_ = 61) from fun q_ => h_ (Or.inr (Or.inr (Or.inr (Or.inr (Or.inr (Or.inr (q_)))))))), eσ2, dk_up_n (show ¬ (k_ = 141 ∧ j_ = 56) from fun q_ => h_ (Or.inr (Or.inl (q_)))), eσ1, dk_up_n (show ¬ (k_ = 141 ∧ j_ = 55) from fun q_ => h_ (Or.inl (q_)))]), trivial⟩
      · skip
        refine dk_iload_n (pc' := 57) hE dX11_ask_56 rfl rfl rfl ?_
        refine dk_aload_n (pc' := 58) hE dX11_ask_57 rfl rfl rfl ?_
        refine gf_11_49 (pc' := 61) (w := 173) hE fl_X11_110 dX11_ask_58 is_141 rfl rfl ?_
        refine dk_iload (pc' := 63) hE dX11_ask_61 rfl rfl ?_
        refine ga_101 (pc' := 64) hE dX11_ask_63 is_173 (by omega) rfl (fun v13 hv13 htv13 hbv13 => ?_)
        refine dk_isubW (pc' := 65) hE dX11_ask_64 rfl (fun v14 hv14 _ => ?_)
        refine dk_istore (pc' := 67) (ls' := [(4, 141), (0, b), (0, p), (0, d), (0, k), (0, m), (0, i), (0, v14)]) hE dX11_ask_65 rfl (by decide) rfl ?_
        have lp217 : ∀ (m3 : Int) (σ217c : dkS), ((∀ k_ j_ : Int, ¬ ((k_ = 141 ∧ j_ = 57) ∨ (k_ = 141 ∧ j_ = 58) ∨ (k_ = 141 ∧ j_ = 59) ∨ (k_ = 141 ∧ j_ = 60)) → σ217c k_ j_ = σ47c k_ j_)) → dk_PJ E 217 [(4, 141), (0, b), (0, p), (0, d), (0, k), (0, m3), (0, i), (9, 0)] [] 190 σ217c := by
          intro m3 σ217c hF217 
          obtain ⟨v15, hv15⟩ : ∃ z : Int, z = i + 1 := ⟨_, rfl⟩
          refine dk_iinc (pc' := 220) (ls' := [(4, 141), (0, b), (0, p), (0, d), (0, k), (0, m3), (0, v15), (9, 0)]) hE dX11_ask_217 rfl hv15.symm (by omega) rfl (by decide) rfl ?_
          refine dk_goto (tgt := 47) hE dX11_ask_220 (by decide) ?_
          exact ih47 m3 v15 σ217c (by omega) (fun k_ j_ h_ => by rw [hF217 k_ j_ (fun w_ => h_ (w_.elim (fun x0_ => Or.inl (x0_)) (fun y0_ => y0_.elim (fun x1_ => Or.inr (Or.inl (x1_))) (fun y1_ => y1_.elim (fun x2_ => Or.inr (Or.inr (Or.inl (x2_)))) (fun y2_ => Or.inr (Or.inr (Or.inr (y2_)))))))), hF47 k_ j_ (fun w_ => h_ (w_.elim (fun x0_ => Or.inl (x0_)) (fun y0_ => y0_.elim (fun x1_ => Or.inr (Or.inl (x1_))) (fun y1_ => y1_.elim (fun x2_ => Or.inr (Or.inr (Or.inl (x2_)))) (fun y2_ => Or.inr (Or.inr (Or.inr (y2_))))))))]) (by omega)
        have lp112 : ∀ (m2 : Int) (σ112c : dkS), ((∀ k_ j_ : Int, ¬ (False) → σ112c k_ j_ = σ47c k_ j_)) → dk_PJ E 112 [(4, 141), (0, b), (0, p), (0, d), (0, k), (0, m2), (0, i), (0, v14)] [] 190 σ112c := by
          intro m2 σ112c hF112 
          refine dk_aload_n (pc' := 113) hE dX11_ask_112 rfl rfl rfl ?_
          refine dk_iload (pc' := 115) hE dX11_ask_113 rfl rfl ?_
          refine dk_iconst (pc' := 116) hE dX11_ask_115 (by decide) rfl ?_
          refine dk_iload_n (pc' := 117) hE dX11_ask_116 rfl rfl rfl ?_
          refine dk_iload (pc' := 119) hE dX11_ask_117 rfl rfl ?_
          refine dk_cV (pc' := 122) (as := [(0, i), (0, 1), (0, b), (0, k)]) hE lk_X11_430 (ct_X11_isFact l G hGd i 1 b k) dX11_ask_119 rfl is_141 rfl (by decide) (Nat.le_of_ble_eq_true rfl) ⟨rfl, (by omega)⟩ rfl (fun r17 σ16 hr17 hor17 => ?_)
          have hz18 : σ112c 170 i = σ 170 i := by rw [hF112 170 i not_false, hF47 170 i (by omega), eσ7, dk_up_n (show ¬ (170 = 141 ∧ i = 60) by omega), eσ6, dk_up_n (show ¬ (170 = 141 ∧ i = 59) by omega), eσ5, dk_up_n (show ¬ (170 = 141 ∧ i = 58) by omega), eσ4, dk_up_n (show ¬ (170 = 141 ∧ i = 57) by omega), eσ3, dk_up_n (show ¬ (170 = 141 ∧ i = 61) by omega), eσ2, dk_up_n (show ¬ (170 = 141 ∧ i = 56) by omega), eσ1, dk_up_n (show ¬ (170 = 141 ∧ i = 55) by omega)]
          obtain ⟨v19, rfl, hfσ16, hpr17⟩ := hr17
          have hsσ16 : σ112c = σ16 := (funext (fun k => funext (fun j => hfσ16 k j not_false))).symm
          subst hsσ16
          rcases hpr17 with ⟨rfl, hpr17⟩ | rfl
          · skip
            refine dk_if_eq (tgt := 217) (pc' := 125) hE dX11_ask_122 (by decide) rfl (fun hc20 => absurd hc20 (by decide)) (fun hc20 => ?_)
            refine dk_iload (pc' := 127) hE dX11_ask_125 rfl rfl ?_
            refine dk_iconst (pc' := 128) hE dX11_ask_127 (by decide) rfl ?_
            refine dk_icmp_ge (tgt := 134) (pc' := 131) hE dX11_ask_128 (by decide) rfl (fun hc21 => ?_) (fun hc21 => ?_)
            · skip
              refine dk_aload_n (pc' := 135) hE dX11_ask_134 rfl rfl rfl ?_
              refine dk_iload (pc' := 137) hE dX11_ask_135 rfl rfl ?_
              refine dk_aload_n (pc' := 138) hE dX11_ask_137 rfl rfl rfl ?_
              refine gf_11_60 (pc' := 141) hE fl_X11_452 dX11_ask_138 is_141 rfl (fun v22 hv22 htv22 hbv22 => ?_)
              refine dk_icmp_ge (tgt := 149) (pc' := 144) hE dX11_ask_141 (by decide) rfl (fun hc23 => ?_) (fun hc23 => ?_)
              · skip
                refine dk_aload_n (pc' := 150) hE dX11_ask_149 rfl rfl rfl ?_
                refine gf_11_60 (pc' := 153) hE fl_X11_452 dX11_ask_150 is_141 rfl (fun v24 hv24 htv24 hbv24 => ?_)
                have hq24 : v22 = v24 := (show v24 = v22 by rw [hv24, hv22]).symm
                subst hq24
                clear htv24 hbv24
                refine pf_11_60 (pc' := 156) hE fl_X11_452 dX11_ask_153 is_141 trivial rfl (fun σ25 eσ25 => ?_)
                refine dk_aload_n (pc' := 157) hE dX11_ask_156 rfl rfl rfl ?_
                refine gf_11_48 (pc' := 160) (w := 172) hE fl_X11_107 dX11_ask_157 is_141 rfl rfl ?_
                refine dk_iload (pc' := 162) hE dX11_ask_160 rfl rfl ?_
                refine ga_100 (pc' := 163) hE dX11_ask_162 is_172 (by omega) rfl (fun v26 hv26 htv26 hbv26 => ?_)
                have hq26 : v26 = σ 172 i := by rw [hv26, eσ25, dk_up_n (show ¬ (172 = 141 ∧ i = 60) by omega), hF112 172 i not_false, hF47 172 i (by omega), eσ7, dk_up_n (show ¬ (172 = 141 ∧ i = 60) by omega), eσ6, dk_up_n (show ¬ (172 = 141 ∧ i = 59) by omega), eσ5, dk_up_n (show ¬ (172 = 141 ∧ i = 58) by omega), eσ4, dk_up_n (show ¬ (172 = 141 ∧ i = 57) by omega), eσ3, dk_up_n (show ¬ (172 = 141 ∧ i = 61) by omega), eσ2, dk_up_n (show ¬ (172 = 141 ∧ i = 56) by omega), eσ1, dk_up_n (show ¬ (172 = 141 ∧ i = 55) by omega)]
                refine dk_iload_n (pc' := 164) hE dX11_ask_163 rfl rfl rfl ?_
                refine dk_icmp_ne (tgt := 189) (pc' := 167) hE dX11_ask_164 (by decide) rfl (fun hc27 => ?_) (fun hc27 => ?_)
                · skip
                  refine dk_iload (pc' := 191) hE dX11_ask_189 rfl rfl ?_
                  refine dk_bipush (pc' := 193) hE dX11_ask_191 (by decide) rfl ?_
                  refine dk_icmp_gt (tgt := 217) (pc' := 196) hE dX11_ask_193 (by decide) rfl (fun hc28 => ?_) (fun hc28 => ?_)
                  · skip
                    obtain ⟨v29, hv29⟩ : ∃ z : Int, z = i + 1 := ⟨_, rfl⟩
                    refine dk_iinc (pc' := 220) (ls' := [(4, 141), (0, b), (0, p), (0, d), (0, k), (0, m2), (0, v29), (0, v14)]) hE dX11_ask_217 rfl hv29.symm (by omega) rfl (by decide) rfl ?_
                    refine dk_goto (tgt := 47) hE dX11_ask_220 (by decide) ?_
                    refine dk_drop (ls' := [(4, 141), (0, b), (0, p), (0, d), (0, k), (0, m2), (0, v29), (9, 0)]) [true, true, true, true, true, true, true, false] rfl ?_
                    exact ih47 m2 v29 σ25 (by omega) (fun k_ j_ h_ => by rw [eσ25, dk_up_n (show ¬ (k_ = 141 ∧ j_ = 60) from fun q_ => h_ (Or.inr (Or.inr (Or.inr (q_))))), hF112 k_ j_ not_false, hF47 k_ j_ (fun w_ => h_ (w_.elim (fun x0_ => Or.inl (x0_)) (fun y0_ => y0_.elim (fun x1_ => Or.inr (Or.inl (x1_))) (fun y1_ => y1_.elim (fun x2_ => Or.inr (Or.inr (Or.inl (x2_)))) (fun y2_ => Or.inr (Or.inr (Or.inr (y2_))))))))]) (by omega)
                  · skip
                    refine dk_aload_n (pc' := 197) hE dX11_ask_196 rfl rfl rfl ?_
                    refine dk_dup (pc' := 198) hE dX11_ask_197 (show (4 : Nat) ≠ 3 by decide) rfl ?_
                    refine gf_11_59 (pc' := 201) hE fl_X11_449 dX11_ask_198 is_141 rfl (fun v30 hv30 htv30 hbv30 => ?_)
                    refine dk_aload_n (pc' := 202) hE dX11_ask_201 rfl rfl rfl ?_
                    refine dk_aload_n (pc' := 203) hE dX11_ask_202 rfl rfl rfl ?_
                    refine gf_11_48 (pc' := 206) (w := 172) hE fl_X11_107 dX11_ask_203 is_141 rfl rfl ?_
                    refine dk_iload (pc' := 208) hE dX11_ask_206 rfl rfl ?_
                    refine ga_100 (pc' := 209) hE dX11_ask_208 is_172 (by omega) rfl (fun v31 hv31 htv31 hbv31 => ?_)
                    have hq31 : v26 = v31 := (show v31 = v26 by rw [hv31, hv26]).symm
                    subst hq31
                    clear htv31 hbv31
                    have gv26 := hG.1 i (by omega) (by omega)
                    refine dk_iconst (pc' := 210) hE dX11_ask_209 (by decide) rfl ?_
                    refine dk_cV (pc' := 213) (as := [(0, v26), (0, 0)]) hE lk_X11_362 (ct_X11_loadOf l G hGd v26 0) dX11_ask_210 rfl is_141 rfl (by decide) (Nat.le_of_ble_eq_true rfl) ⟨rfl, (by omega), (by omega)⟩ rfl (fun r33 σ32 hr33 hor33 => ?_)
                    obtain ⟨v34, rfl, hfσ32, hpr33⟩ := hr33
                    have hsσ32 : σ25 = σ32 := (funext (fun k => funext (fun j => hfσ32 k j not_false))).symm
                    subst hsσ32
                    refine dk_iaddW (pc' := 214) hE dX11_ask_213 rfl (fun v35 hv35 _ => ?_)
                    refine pf_11_59 (pc' := 217) hE fl_X11_449 dX11_ask_214 is_141 trivial rfl (fun σ36 eσ36 => ?_)
                    obtain ⟨v37, hv37⟩ : ∃ z : Int, z = i + 1 := ⟨_, rfl⟩
                    refine dk_iinc (pc' := 220) (ls' := [(4, 141), (0, b), (0, p), (0, d), (0, k), (0, m2), (0, v37), (0, v14)]) hE dX11_ask_217 rfl hv37.symm (by omega) rfl (by decide) rfl ?_
                    refine dk_goto (tgt := 47) hE dX11_ask_220 (by decide) ?_
                    refine dk_drop (ls' := [(4, 141), (0, b), (0, p), (0, d), (0, k), (0, m2), (0, v37), (9, 0)]) [true, true, true, true, true, true, true, false] rfl ?_
                    exact ih47 m2 v37 σ36 (by omega) (fun k_ j_ h_ => by rw [eσ36, dk_up_n (show ¬ (k_ = 141 ∧ j_ = 59) from fun q_ => h_ (Or.inr (Or.inr (Or.inl (q_))))), eσ25, dk_up_n (show ¬ (k_ = 141 ∧ j_ = 60) from fun q_ => h_ (Or.inr (Or.inr (Or.inr (q_))))), hF112 k_ j_ not_false, hF47 k_ j_ (fun w_ => h_ (w_.elim (fun x0_ => Or.inl (x0_)) (fun y0_ => y0_.elim (fun x1_ => Or.inr (Or.inl (x1_))) (fun y1_ => y1_.elim (fun x2_ => Or.inr (Or.inr (Or.inl (x2_)))) (fun y2_ => Or.inr (Or.inr (Or.inr (y2_))))))))]) (by omega)
                · skip
                  refine dk_aload_n (pc' := 168) hE dX11_ask_167 rfl rfl rfl ?_
                  refine dk_iload (pc' := 170) hE dX11_ask_168 rfl rfl ?_
                  refine dk_aload_n (pc' := 171) hE dX11_ask_170 rfl rfl rfl ?_
                  refine gf_11_58 (pc' := 174) hE fl_X11_446 dX11_ask_171 is_141 rfl (fun v38 hv38 htv38 hbv38 => ?_)
                  refine dk_icmp_ge (tgt := 182) (pc' := 177) hE dX11_ask_174 (by decide) rfl (fun hc39 => ?_) (fun hc39 => ?_)
                  · skip
                    refine dk_aload_n (pc' := 183) hE dX11_ask_182 rfl rfl rfl ?_
                    refine gf_11_58 (pc' := 186) hE fl_X11_446 dX11_ask_183 is_141 rfl (fun v40 hv40 htv40 hbv40 => ?_)
                    have hq40 : v38 = v40 := (show v40 = v38 by rw [hv40, hv38]).symm
                    subst hq40
                    clear htv40 hbv40
                    refine pf_11_58 (pc' := 189) hE fl_X11_446 dX11_ask_186 is_141 trivial rfl (fun σ41 eσ41 => ?_)
                    refine dk_iload (pc' := 191) hE dX11_ask_189 rfl rfl ?_
                    refine dk_bipush (pc' := 193) hE dX11_ask_191 (by decide) rfl ?_
                    refine dk_icmp_gt (tgt := 217) (pc' := 196) hE dX11_ask_193 (by decide) rfl (fun hc42 => ?_) (fun hc42 => ?_)
                    · skip
                      obtain ⟨v43, hv43⟩ : ∃ z : Int, z = i + 1 := ⟨_, rfl⟩
                      refine dk_iinc (pc' := 220) (ls' := [(4, 141), (0, b), (0, p), (0, d), (0, k), (0, m2), (0, v43), (0, v14)]) hE dX11_ask_217 rfl hv43.symm (by omega) rfl (by decide) rfl ?_
                      refine dk_goto (tgt := 47) hE dX11_ask_220 (by decide) ?_
                      refine dk_drop (ls' := [(4, 141), (0, b), (0, p), (0, d), (0, k), (0, m2), (0, v43), (9, 0)]) [true, true, true, true, true, true, true, false] rfl ?_
                      exact ih47 m2 v43 σ41 (by omega) (fun k_ j_ h_ => by rw [eσ41, dk_up_n (show ¬ (k_ = 141 ∧ j_ = 58) from fun q_ => h_ (Or.inr (Or.inl (q_)))), eσ25, dk_up_n (show ¬ (k_ = 141 ∧ j_ = 60) from fun q_ => h_ (Or.inr (Or.inr (Or.inr (q_))))), hF112 k_ j_ not_false, hF47 k_ j_ (fun w_ => h_ (w_.elim (fun x0_ => Or.inl (x0_)) (fun y0_ => y0_.elim (fun x1_ => Or.inr (Or.inl (x1_))) (fun y1_ => y1_.elim (fun x2_ => Or.inr (Or.inr (Or.inl (x2_)))) (fun y2_ => Or.inr (Or.inr (Or.inr (y2_))))))))]) (by omega)
                    · skip
                      refine dk_aload_n (pc' := 197) hE dX11_ask_196 rfl rfl rfl ?_
                      refine dk_dup (pc' := 198) hE dX11_ask_197 (show (4 : Nat) ≠ 3 by decide) rfl ?_
                      refine gf_11_59 (pc' := 201) hE fl_X11_449 dX11_ask_198 is_141 rfl (fun v44 hv44 htv44 hbv44 => ?_)
                      refine dk_aload_n (pc' := 202) hE dX11_ask_201 rfl rfl rfl ?_
                      refine dk_aload_n (pc' := 203) hE dX11_ask_202 rfl rfl rfl ?_
                      refine gf_11_48 (pc' := 206) (w := 172) hE fl_X11_107 dX11_ask_203 is_141 rfl rfl ?_
                      refine dk_iload (pc' := 208) hE dX11_ask_206 rfl rfl ?_
                      refine ga_100 (pc' := 209) hE dX11_ask_208 is_172 (by omega) rfl (fun v45 hv45 htv45 hbv45 => ?_)
                      have hq45 : v26 = v45 := (show v45 = v26 by rw [hv45, eσ41, dk_up_n (show ¬ (172 = 141 ∧ i = 58) by omega), hv26]).symm
                      subst hq45
                      clear htv45 hbv45
                      have gv26 := hG.1 i (by omega) (by omega)
                      refine dk_iconst (pc' := 210) hE dX11_ask_209 (by decide) rfl ?_
                      refine dk_cV (pc' := 213) (as := [(0, v26), (0, 0)]) hE lk_X11_362 (ct_X11_loadOf l G hGd v26 0) dX11_ask_210 rfl is_141 rfl (by decide) (Nat.le_of_ble_eq_true rfl) ⟨rfl, (by omega), (by omega)⟩ rfl (fun r47 σ46 hr47 hor47 => ?_)
                      obtain ⟨v48, rfl, hfσ46, hpr47⟩ := hr47
                      have hsσ46 : σ41 = σ46 := (funext (fun k => funext (fun j => hfσ46 k j not_false))).symm
                      subst hsσ46
                      refine dk_iaddW (pc' := 214) hE dX11_ask_213 rfl (fun v49 hv49 _ => ?_)
                      refine pf_11_59 (pc' := 217) hE fl_X11_449 dX11_ask_214 is_141 trivial rfl (fun σ50 eσ50 => ?_)
                      obtain ⟨v51, hv51⟩ : ∃ z : Int, z = i + 1 := ⟨_, rfl⟩
                      refine dk_iinc (pc' := 220) (ls' := [(4, 141), (0, b), (0, p), (0, d), (0, k), (0, m2), (0, v51), (0, v14)]) hE dX11_ask_217 rfl hv51.symm (by omega) rfl (by decide) rfl ?_
                      refine dk_goto (tgt := 47) hE dX11_ask_220 (by decide) ?_
                      refine dk_drop (ls' := [(4, 141), (0, b), (0, p), (0, d), (0, k), (0, m2), (0, v51), (9, 0)]) [true, true, true, true, true, true, true, false] rfl ?_
                      exact ih47 m2 v51 σ50 (by omega) (fun k_ j_ h_ => by rw [eσ50, dk_up_n (show ¬ (k_ = 141 ∧ j_ = 59) from fun q_ => h_ (Or.inr (Or.inr (Or.inl (q_))))), eσ41, dk_up_n (show ¬ (k_ = 141 ∧ j_ = 58) from fun q_ => h_ (Or.inr (Or.inl (q_)))), eσ25, dk_up_n (show ¬ (k_ = 141 ∧ j_ = 60) from fun q_ => h_ (Or.inr (Or.inr (Or.inr (q_))))), hF112 k_ j_ not_false, hF47 k_ j_ (fun w_ => h_ (w_.elim (fun x0_ => Or.inl (x0_)) (fun y0_ => y0_.elim (fun x1_ => Or.inr (Or.inl (x1_))) (fun y1_ => y1_.elim (fun x2_ => Or.inr (Or.inr (Or.inl (x2_)))) (fun y2_ => Or.inr (Or.inr (Or.inr (y2_))))))))]) (by omega)
                  · skip
                    refine dk_iload (pc' := 179) hE dX11_ask_177 rfl rfl ?_
                    refine dk_goto (tgt := 186) hE dX11_ask_179 (by decide) ?_
                    refine pf_11_58 (pc' := 189) hE fl_X11_446 dX11_ask_186 is_141 trivial rfl (fun σ52 eσ52 => ?_)
                    refine dk_iload (pc' := 191) hE dX11_ask_189 rfl rfl ?_
                    refine dk_bipush (pc' := 193) hE dX11_ask_191 (by decide) rfl ?_
                    refine dk_icmp_gt (tgt := 217) (pc' := 196) hE dX11_ask_193 (by decide) rfl (fun hc53 => ?_) (fun hc53 => ?_)
                    · skip
                      obtain ⟨v54, hv54⟩ : ∃ z : Int, z = i + 1 := ⟨_, rfl⟩
                      refine dk_iinc (pc' := 220) (ls' := [(4, 141), (0, b), (0, p), (0, d), (0, k), (0, m2), (0, v54), (0, v14)]) hE dX11_ask_217 rfl hv54.symm (by omega) rfl (by decide) rfl ?_
                      refine dk_goto (tgt := 47) hE dX11_ask_220 (by decide) ?_
                      refine dk_drop (ls' := [(4, 141), (0, b), (0, p), (0, d), (0, k), (0, m2), (0, v54), (9, 0)]) [true, true, true, true, true, true, true, false] rfl ?_
                      exact ih47 m2 v54 σ52 (by omega) (fun k_ j_ h_ => by rw [eσ52, dk_up_n (show ¬ (k_ = 141 ∧ j_ = 58) from fun q_ => h_ (Or.inr (Or.inl (q_)))), eσ25, dk_up_n (show ¬ (k_ = 141 ∧ j_ = 60) from fun q_ => h_ (Or.inr (Or.inr (Or.inr (q_))))), hF112 k_ j_ not_false, hF47 k_ j_ (fun w_ => h_ (w_.elim (fun x0_ => Or.inl (x0_)) (fun y0_ => y0_.elim (fun x1_ => Or.inr (Or.inl (x1_))) (fun y1_ => y1_.elim (fun x2_ => Or.inr (Or.inr (Or.inl (x2_)))) (fun y2_ => Or.inr (Or.inr (Or.inr (y2_))))))))]) (by omega)
                    · skip
                      refine dk_aload_n (pc' := 197) hE dX11_ask_196 rfl rfl rfl ?_
                      refine dk_dup (pc' := 198) hE dX11_ask_197 (show (4 : Nat) ≠ 3 by decide) rfl ?_
                      refine gf_11_59 (pc' := 201) hE fl_X11_449 dX11_ask_198 is_141 rfl (fun v55 hv55 htv55 hbv55 => ?_)
                      refine dk_aload_n (pc' := 202) hE dX11_ask_201 rfl rfl rfl ?_
                      refine dk_aload_n (pc' := 203) hE dX11_ask_202 rfl rfl rfl ?_
                      refine gf_11_48 (pc' := 206) (w := 172) hE fl_X11_107 dX11_ask_203 is_141 rfl rfl ?_
                      refine dk_iload (pc' := 208) hE dX11_ask_206 rfl rfl ?_
                      refine ga_100 (pc' := 209) hE dX11_ask_208 is_172 (by omega) rfl (fun v56 hv56 htv56 hbv56 => ?_)
                      have hq56 : v26 = v56 := (show v56 = v26 by rw [hv56, eσ52, dk_up_n (show ¬ (172 = 141 ∧ i = 58) by omega), hv26]).symm
                      subst hq56
                      clear htv56 hbv56
                      have gv26 := hG.1 i (by omega) (by omega)
                      refine dk_iconst (pc' := 210) hE dX11_ask_209 (by decide) rfl ?_
                      refine dk_cV (pc' := 213) (as := [(0, v26), (0, 0)]) hE lk_X11_362 (ct_X11_loadOf l G hGd v26 0) dX11_ask_210 rfl is_141 rfl (by decide) (Nat.le_of_ble_eq_true rfl) ⟨rfl, (by omega), (by omega)⟩ rfl (fun r58 σ57 hr58 hor58 => ?_)
                      obtain ⟨v59, rfl, hfσ57, hpr58⟩ := hr58
                      have hsσ57 : σ52 = σ57 := (funext (fun k => funext (fun j => hfσ57 k j not_false))).symm
                      subst hsσ57
                      refine dk_iaddW (pc' := 214) hE dX11_ask_213 rfl (fun v60 hv60 _ => ?_)
                      refine pf_11_59 (pc' := 217) hE fl_X11_449 dX11_ask_214 is_141 trivial rfl (fun σ61 eσ61 => ?_)
                      obtain ⟨v62, hv62⟩ : ∃ z : Int, z = i + 1 := ⟨_, rfl⟩
                      refine dk_iinc (pc' := 220) (ls' := [(4, 141), (0, b), (0, p), (0, d), (0, k), (0, m2), (0, v62), (0, v14)]) hE dX11_ask_217 rfl hv62.symm (by omega) rfl (by decide) rfl ?_
                      refine dk_goto (tgt := 47) hE dX11_ask_220 (by decide) ?_
                      refine dk_drop (ls' := [(4, 141), (0, b), (0, p), (0, d), (0, k), (0, m2), (0, v62), (9, 0)]) [true, true, true, true, true, true, true, false] rfl ?_
                      exact ih47 m2 v62 σ61 (by omega) (fun k_ j_ h_ => by rw [eσ61, dk_up_n (show ¬ (k_ = 141 ∧ j_ = 59) from fun q_ => h_ (Or.inr (Or.inr (Or.inl (q_))))), eσ52, dk_up_n (show ¬ (k_ = 141 ∧ j_ = 58) from fun q_ => h_ (Or.inr (Or.inl (q_)))), eσ25, dk_up_n (show ¬ (k_ = 141 ∧ j_ = 60) from fun q_ => h_ (Or.inr (Or.inr (Or.inr (q_))))), hF112 k_ j_ not_false, hF47 k_ j_ (fun w_ => h_ (w_.elim (fun x0_ => Or.inl (x0_)) (fun y0_ => y0_.elim (fun x1_ => Or.inr (Or.inl (x1_))) (fun y1_ => y1_.elim (fun x2_ => Or.inr (Or.inr (Or.inl (x2_)))) (fun y2_ => Or.inr (Or.inr (Or.inr (y2_))))))))]) (by omega)
              · skip
                refine dk_iload (pc' := 146) hE dX11_ask_144 rfl rfl ?_
                refine dk_goto (tgt := 153) hE dX11_ask_146 (by decide) ?_
                refine pf_11_60 (pc' := 156) hE fl_X11_452 dX11_ask_153 is_141 trivial rfl (fun σ63 eσ63 => ?_)
                refine dk_aload_n (pc' := 157) hE dX11_ask_156 rfl rfl rfl ?_
                refine gf_11_48 (pc' := 160) (w := 172) hE fl_X11_107 dX11_ask_157 is_141 rfl rfl ?_
                refine dk_iload (pc' := 162) hE dX11_ask_160 rfl rfl ?_
                refine ga_100 (pc' := 163) hE dX11_ask_162 is_172 (by omega) rfl (fun v64 hv64 htv64 hbv64 => ?_)
                have hq64 : v64 = σ 172 i := by rw [hv64, eσ63, dk_up_n (show ¬ (172 = 141 ∧ i = 60) by omega), hF112 172 i not_false, hF47 172 i (by omega), eσ7, dk_up_n (show ¬ (172 = 141 ∧ i = 60) by omega), eσ6, dk_up_n (show ¬ (172 = 141 ∧ i = 59) by omega), eσ5, dk_up_n (show ¬ (172 = 141 ∧ i = 58) by omega), eσ4, dk_up_n (show ¬ (172 = 141 ∧ i = 57) by omega), eσ3, dk_up_n (show ¬ (172 = 141 ∧ i = 61) by omega), eσ2, dk_up_n (show ¬ (172 = 141 ∧ i = 56) by omega), eσ1, dk_up_n (show ¬ (172 = 141 ∧ i = 55) by omega)]
                refine dk_iload_n (pc' := 164) hE dX11_ask_163 rfl rfl rfl ?_
                refine dk_icmp_ne (tgt := 189) (pc' := 167) hE dX11_ask_164 (by decide) rfl (fun hc65 => ?_) (fun hc65 => ?_)
                · skip
                  refine dk_iload (pc' := 191) hE dX11_ask_189 rfl rfl ?_
                  refine dk_bipush (pc' := 193) hE dX11_ask_191 (by decide) rfl ?_
                  refine dk_icmp_gt (tgt := 217) (pc' := 196) hE dX11_ask_193 (by decide) rfl (fun hc66 => ?_) (fun hc66 => ?_)
                  · skip
                    obtain ⟨v67, hv67⟩ : ∃ z : Int, z = i + 1 := ⟨_, rfl⟩
                    refine dk_iinc (pc' := 220) (ls' := [(4, 141), (0, b), (0, p), (0, d), (0, k), (0, m2), (0, v67), (0, v14)]) hE dX11_ask_217 rfl hv67.symm (by omega) rfl (by decide) rfl ?_
                    refine dk_goto (tgt := 47) hE dX11_ask_220 (by decide) ?_
                    refine dk_drop (ls' := [(4, 141), (0, b), (0, p), (0, d), (0, k), (0, m2), (0, v67), (9, 0)]) [true, true, true, true, true, true, true, false] rfl ?_
                    exact ih47 m2 v67 σ63 (by omega) (fun k_ j_ h_ => by rw [eσ63, dk_up_n (show ¬ (k_ = 141 ∧ j_ = 60) from fun q_ => h_ (Or.inr (Or.inr (Or.inr (q_))))), hF112 k_ j_ not_false, hF47 k_ j_ (fun w_ => h_ (w_.elim (fun x0_ => Or.inl (x0_)) (fun y0_ => y0_.elim (fun x1_ => Or.inr (Or.inl (x1_))) (fun y1_ => y1_.elim (fun x2_ => Or.inr (Or.inr (Or.inl (x2_)))) (fun y2_ => Or.inr (Or.inr (Or.inr (y2_))))))))]) (by omega)
                  · skip
                    refine dk_aload_n (pc' := 197) hE dX11_ask_196 rfl rfl rfl ?_
                    refine dk_dup (pc' := 198) hE dX11_ask_197 (show (4 : Nat) ≠ 3 by decide) rfl ?_
                    refine gf_11_59 (pc' := 201) hE fl_X11_449 dX11_ask_198 is_141 rfl (fun v68 hv68 htv68 hbv68 => ?_)
                    refine dk_aload_n (pc' := 202) hE dX11_ask_201 rfl rfl rfl ?_
                    refine dk_aload_n (pc' := 203) hE dX11_ask_202 rfl rfl rfl ?_
                    refine gf_11_48 (pc' := 206) (w := 172) hE fl_X11_107 dX11_ask_203 is_141 rfl rfl ?_
                    refine dk_iload (pc' := 208) hE dX11_ask_206 rfl rfl ?_
                    refine ga_100 (pc' := 209) hE dX11_ask_208 is_172 (by omega) rfl (fun v69 hv69 htv69 hbv69 => ?_)
                    have hq69 : v64 = v69 := (show v69 = v64 by rw [hv69, hv64]).symm
                    subst hq69
                    clear htv69 hbv69
                    have gv64 := hG.1 i (by omega) (by omega)
                    refine dk_iconst (pc' := 210) hE dX11_ask_209 (by decide) rfl ?_
                    refine dk_cV (pc' := 213) (as := [(0, v64), (0, 0)]) hE lk_X11_362 (ct_X11_loadOf l G hGd v64 0) dX11_ask_210 rfl is_141 rfl (by decide) (Nat.le_of_ble_eq_true rfl) ⟨rfl, (by omega), (by omega)⟩ rfl (fun r71 σ70 hr71 hor71 => ?_)
                    obtain ⟨v72, rfl, hfσ70, hpr71⟩ := hr71
                    have hsσ70 : σ63 = σ70 := (funext (fun k => funext (fun j => hfσ70 k j not_false))).symm
                    subst hsσ70
                    refine dk_iaddW (pc' := 214) hE dX11_ask_213 rfl (fun v73 hv73 _ => ?_)
                    refine pf_11_59 (pc' := 217) hE fl_X11_449 dX11_ask_214 is_141 trivial rfl (fun σ74 eσ74 => ?_)
                    obtain ⟨v75, hv75⟩ : ∃ z : Int, z = i + 1 := ⟨_, rfl⟩
                    refine dk_iinc (pc' := 220) (ls' := [(4, 141), (0, b), (0, p), (0, d), (0, k), (0, m2), (0, v75), (0, v14)]) hE dX11_ask_217 rfl hv75.symm (by omega) rfl (by decide) rfl ?_
                    refine dk_goto (tgt := 47) hE dX11_ask_220 (by decide) ?_
                    refine dk_drop (ls' := [(4, 141), (0, b), (0, p), (0, d), (0, k), (0, m2), (0, v75), (9, 0)]) [true, true, true, true, true, true, true, false] rfl ?_
                    exact ih47 m2 v75 σ74 (by omega) (fun k_ j_ h_ => by rw [eσ74, dk_up_n (show ¬ (k_ = 141 ∧ j_ = 59) from fun q_ => h_ (Or.inr (Or.inr (Or.inl (q_))))), eσ63, dk_up_n (show ¬ (k_ = 141 ∧ j_ = 60) from fun q_ => h_ (Or.inr (Or.inr (Or.inr (q_))))), hF112 k_ j_ not_false, hF47 k_ j_ (fun w_ => h_ (w_.elim (fun x0_ => Or.inl (x0_)) (fun y0_ => y0_.elim (fun x1_ => Or.inr (Or.inl (x1_))) (fun y1_ => y1_.elim (fun x2_ => Or.inr (Or.inr (Or.inl (x2_)))) (fun y2_ => Or.inr (Or.inr (Or.inr (y2_))))))))]) (by omega)
                · skip
                  refine dk_aload_n (pc' := 168) hE dX11_ask_167 rfl rfl rfl ?_
                  refine dk_iload (pc' := 170) hE dX11_ask_168 rfl rfl ?_
                  refine dk_aload_n (pc' := 171) hE dX11_ask_170 rfl rfl rfl ?_
                  refine gf_11_58 (pc' := 174) hE fl_X11_446 dX11_ask_171 is_141 rfl (fun v76 hv76 htv76 hbv76 => ?_)
                  refine dk_icmp_ge (tgt := 182) (pc' := 177) hE dX11_ask_174 (by decide) rfl (fun hc77 => ?_) (fun hc77 => ?_)
                  · skip
                    refine dk_aload_n (pc' := 183) hE dX11_ask_182 rfl rfl rfl ?_
                    refine gf_11_58 (pc' := 186) hE fl_X11_446 dX11_ask_183 is_141 rfl (fun v78 hv78 htv78 hbv78 => ?_)
                    have hq78 : v76 = v78 := (show v78 = v76 by rw [hv78, hv76]).symm
                    subst hq78
                    clear htv78 hbv78
                    refine pf_11_58 (pc' := 189) hE fl_X11_446 dX11_ask_186 is_141 trivial rfl (fun σ79 eσ79 => ?_)
                    refine dk_iload (pc' := 191) hE dX11_ask_189 rfl rfl ?_
                    refine dk_bipush (pc' := 193) hE dX11_ask_191 (by decide) rfl ?_
                    refine dk_icmp_gt (tgt := 217) (pc' := 196) hE dX11_ask_193 (by decide) rfl (fun hc80 => ?_) (fun hc80 => ?_)
                    · skip
                      obtain ⟨v81, hv81⟩ : ∃ z : Int, z = i + 1 := ⟨_, rfl⟩
                      refine dk_iinc (pc' := 220) (ls' := [(4, 141), (0, b), (0, p), (0, d), (0, k), (0, m2), (0, v81), (0, v14)]) hE dX11_ask_217 rfl hv81.symm (by omega) rfl (by decide) rfl ?_
                      refine dk_goto (tgt := 47) hE dX11_ask_220 (by decide) ?_
                      refine dk_drop (ls' := [(4, 141), (0, b), (0, p), (0, d), (0, k), (0, m2), (0, v81), (9, 0)]) [true, true, true, true, true, true, true, false] rfl ?_
                      exact ih47 m2 v81 σ79 (by omega) (fun k_ j_ h_ => by rw [eσ79, dk_up_n (show ¬ (k_ = 141 ∧ j_ = 58) from fun q_ => h_ (Or.inr (Or.inl (q_)))), eσ63, dk_up_n (show ¬ (k_ = 141 ∧ j_ = 60) from fun q_ => h_ (Or.inr (Or.inr (Or.inr (q_))))), hF112 k_ j_ not_false, hF47 k_ j_ (fun w_ => h_ (w_.elim (fun x0_ => Or.inl (x0_)) (fun y0_ => y0_.elim (fun x1_ => Or.inr (Or.inl (x1_))) (fun y1_ => y1_.elim (fun x2_ => Or.inr (Or.inr (Or.inl (x2_)))) (fun y2_ => Or.inr (Or.inr (Or.inr (y2_))))))))]) (by omega)
                    · skip
                      refine dk_aload_n (pc' := 197) hE dX11_ask_196 rfl rfl rfl ?_
                      refine dk_dup (pc' := 198) hE dX11_ask_197 (show (4 : Nat) ≠ 3 by decide) rfl ?_
                      refine gf_11_59 (pc' := 201) hE fl_X11_449 dX11_ask_198 is_141 rfl (fun v82 hv82 htv82 hbv82 => ?_)
                      refine dk_aload_n (pc' := 202) hE dX11_ask_201 rfl rfl rfl ?_
                      refine dk_aload_n (pc' := 203) hE dX11_ask_202 rfl rfl rfl ?_
                      refine gf_11_48 (pc' := 206) (w := 172) hE fl_X11_107 dX11_ask_203 is_141 rfl rfl ?_
                      refine dk_iload (pc' := 208) hE dX11_ask_206 rfl rfl ?_
                      refine ga_100 (pc' := 209) hE dX11_ask_208 is_172 (by omega) rfl (fun v83 hv83 htv83 hbv83 => ?_)
                      have hq83 : v64 = v83 := (show v83 = v64 by rw [hv83, eσ79, dk_up_n (show ¬ (172 = 141 ∧ i = 58) by omega), hv64]).symm
                      subst hq83
                      clear htv83 hbv83
                      have gv64 := hG.1 i (by omega) (by omega)
                      refine dk_iconst (pc' := 210) hE dX11_ask_209 (by decide) rfl ?_
                      refine dk_cV (pc' := 213) (as := [(0, v64), (0, 0)]) hE lk_X11_362 (ct_X11_loadOf l G hGd v64 0) dX11_ask_210 rfl is_141 rfl (by decide) (Nat.le_of_ble_eq_true rfl) ⟨rfl, (by omega), (by omega)⟩ rfl (fun r85 σ84 hr85 hor85 => ?_)
                      obtain ⟨v86, rfl, hfσ84, hpr85⟩ := hr85
                      have hsσ84 : σ79 = σ84 := (funext (fun k => funext (fun j => hfσ84 k j not_false))).symm
                      subst hsσ84
                      refine dk_iaddW (pc' := 214) hE dX11_ask_213 rfl (fun v87 hv87 _ => ?_)
                      refine pf_11_59 (pc' := 217) hE fl_X11_449 dX11_ask_214 is_141 trivial rfl (fun σ88 eσ88 => ?_)
                      obtain ⟨v89, hv89⟩ : ∃ z : Int, z = i + 1 := ⟨_, rfl⟩
                      refine dk_iinc (pc' := 220) (ls' := [(4, 141), (0, b), (0, p), (0, d), (0, k), (0, m2), (0, v89), (0, v14)]) hE dX11_ask_217 rfl hv89.symm (by omega) rfl (by decide) rfl ?_
                      refine dk_goto (tgt := 47) hE dX11_ask_220 (by decide) ?_
                      refine dk_drop (ls' := [(4, 141), (0, b), (0, p), (0, d), (0, k), (0, m2), (0, v89), (9, 0)]) [true, true, true, true, true, true, true, false] rfl ?_
                      exact ih47 m2 v89 σ88 (by omega) (fun k_ j_ h_ => by rw [eσ88, dk_up_n (show ¬ (k_ = 141 ∧ j_ = 59) from fun q_ => h_ (Or.inr (Or.inr (Or.inl (q_))))), eσ79, dk_up_n (show ¬ (k_ = 141 ∧ j_ = 58) from fun q_ => h_ (Or.inr (Or.inl (q_)))), eσ63, dk_up_n (show ¬ (k_ = 141 ∧ j_ = 60) from fun q_ => h_ (Or.inr (Or.inr (Or.inr (q_))))), hF112 k_ j_ not_false, hF47 k_ j_ (fun w_ => h_ (w_.elim (fun x0_ => Or.inl (x0_)) (fun y0_ => y0_.elim (fun x1_ => Or.inr (Or.inl (x1_))) (fun y1_ => y1_.elim (fun x2_ => Or.inr (Or.inr (Or.inl (x2_)))) (fun y2_ => Or.inr (Or.inr (Or.inr (y2_))))))))]) (by omega)
                  · skip
                    refine dk_iload (pc' := 179) hE dX11_ask_177 rfl rfl ?_
                    refine dk_goto (tgt := 186) hE dX11_ask_179 (by decide) ?_
                    refine pf_11_58 (pc' := 189) hE fl_X11_446 dX11_ask_186 is_141 trivial rfl (fun σ90 eσ90 => ?_)
                    refine dk_iload (pc' := 191) hE dX11_ask_189 rfl rfl ?_
                    refine dk_bipush (pc' := 193) hE dX11_ask_191 (by decide) rfl ?_
                    refine dk_icmp_gt (tgt := 217) (pc' := 196) hE dX11_ask_193 (by decide) rfl (fun hc91 => ?_) (fun hc91 => ?_)
                    · skip
                      obtain ⟨v92, hv92⟩ : ∃ z : Int, z = i + 1 := ⟨_, rfl⟩
                      refine dk_iinc (pc' := 220) (ls' := [(4, 141), (0, b), (0, p), (0, d), (0, k), (0, m2), (0, v92), (0, v14)]) hE dX11_ask_217 rfl hv92.symm (by omega) rfl (by decide) rfl ?_
                      refine dk_goto (tgt := 47) hE dX11_ask_220 (by decide) ?_
                      refine dk_drop (ls' := [(4, 141), (0, b), (0, p), (0, d), (0, k), (0, m2), (0, v92), (9, 0)]) [true, true, true, true, true, true, true, false] rfl ?_
                      exact ih47 m2 v92 σ90 (by omega) (fun k_ j_ h_ => by rw [eσ90, dk_up_n (show ¬ (k_ = 141 ∧ j_ = 58) from fun q_ => h_ (Or.inr (Or.inl (q_)))), eσ63, dk_up_n (show ¬ (k_ = 141 ∧ j_ = 60) from fun q_ => h_ (Or.inr (Or.inr (Or.inr (q_))))), hF112 k_ j_ not_false, hF47 k_ j_ (fun w_ => h_ (w_.elim (fun x0_ => Or.inl (x0_)) (fun y0_ => y0_.elim (fun x1_ => Or.inr (Or.inl (x1_))) (fun y1_ => y1_.elim (fun x2_ => Or.inr (Or.inr (Or.inl (x2_)))) (fun y2_ => Or.inr (Or.inr (Or.inr (y2_))))))))]) (by omega)
                    · skip
                      refine dk_aload_n (pc' := 197) hE dX11_ask_196 rfl rfl rfl ?_
                      refine dk_dup (pc' := 198) hE dX11_ask_197 (show (4 : Nat) ≠ 3 by decide) rfl ?_
                      refine gf_11_59 (pc' := 201) hE fl_X11_449 dX11_ask_198 is_141 rfl (fun v93 hv93 htv93 hbv93 => ?_)
                      refine dk_aload_n (pc' := 202) hE dX11_ask_201 rfl rfl rfl ?_
                      refine dk_aload_n (pc' := 203) hE dX11_ask_202 rfl rfl rfl ?_
                      refine gf_11_48 (pc' := 206) (w := 172) hE fl_X11_107 dX11_ask_203 is_141 rfl rfl ?_
                      refine dk_iload (pc' := 208) hE dX11_ask_206 rfl rfl ?_
                      refine ga_100 (pc' := 209) hE dX11_ask_208 is_172 (by omega) rfl (fun v94 hv94 htv94 hbv94 => ?_)
                      have hq94 : v64 = v94 := (show v94 = v64 by rw [hv94, eσ90, dk_up_n (show ¬ (172 = 141 ∧ i = 58) by omega), hv64]).symm
                      subst hq94
                      clear htv94 hbv94
                      have gv64 := hG.1 i (by omega) (by omega)
                      refine dk_iconst (pc' := 210) hE dX11_ask_209 (by decide) rfl ?_
                      refine dk_cV (pc' := 213) (as := [(0, v64), (0, 0)]) hE lk_X11_362 (ct_X11_loadOf l G hGd v64 0) dX11_ask_210 rfl is_141 rfl (by decide) (Nat.le_of_ble_eq_true rfl) ⟨rfl, (by omega), (by omega)⟩ rfl (fun r96 σ95 hr96 hor96 => ?_)
                      obtain ⟨v97, rfl, hfσ95, hpr96⟩ := hr96
                      have hsσ95 : σ90 = σ95 := (funext (fun k => funext (fun j => hfσ95 k j not_false))).symm
                      subst hsσ95
                      refine dk_iaddW (pc' := 214) hE dX11_ask_213 rfl (fun v98 hv98 _ => ?_)
                      refine pf_11_59 (pc' := 217) hE fl_X11_449 dX11_ask_214 is_141 trivial rfl (fun σ99 eσ99 => ?_)
                      obtain ⟨v100, hv100⟩ : ∃ z : Int, z = i + 1 := ⟨_, rfl⟩
                      refine dk_iinc (pc' := 220) (ls' := [(4, 141), (0, b), (0, p), (0, d), (0, k), (0, m2), (0, v100), (0, v14)]) hE dX11_ask_217 rfl hv100.symm (by omega) rfl (by decide) rfl ?_
                      refine dk_goto (tgt := 47) hE dX11_ask_220 (by decide) ?_
                      refine dk_drop (ls' := [(4, 141), (0, b), (0, p), (0, d), (0, k), (0, m2), (0, v100), (9, 0)]) [true, true, true, true, true, true, true, false] rfl ?_
                      exact ih47 m2 v100 σ99 (by omega) (fun k_ j_ h_ => by rw [eσ99, dk_up_n (show ¬ (k_ = 141 ∧ j_ = 59) from fun q_ => h_ (Or.inr (Or.inr (Or.inl (q_))))), eσ90, dk_up_n (show ¬ (k_ = 141 ∧ j_ = 58) from fun q_ => h_ (Or.inr (Or.inl (q_)))), eσ63, dk_up_n (show ¬ (k_ = 141 ∧ j_ = 60) from fun q_ => h_ (Or.inr (Or.inr (Or.inr (q_))))), hF112 k_ j_ not_false, hF47 k_ j_ (fun w_ => h_ (w_.elim (fun x0_ => Or.inl (x0_)) (fun y0_ => y0_.elim (fun x1_ => Or.inr (Or.inl (x1_))) (fun y1_ => y1_.elim (fun x2_ => Or.inr (Or.inr (Or.inl (x2_)))) (fun y2_ => Or.inr (Or.inr (Or.inr (y2_))))))))]) (by omega)
            · skip
              refine dk_goto (tgt := 217) hE dX11_ask_131 (by decide) ?_
              obtain ⟨v101, hv101⟩ : ∃ z : Int, z = i + 1 := ⟨_, rfl⟩
              refine dk_iinc (pc' := 220) (ls' := [(4, 141), (0, b), (0, p), (0, d), (0, k), (0, m2), (0, v101), (0, v14)]) hE dX11_ask_217 rfl hv101.symm (by omega) rfl (by decide) rfl ?_
              refine dk_goto (tgt := 47) hE dX11_ask_220 (by decide) ?_
              refine dk_drop (ls' := [(4, 141), (0, b), (0, p), (0, d), (0, k), (0, m2), (0, v101), (9, 0)]) [true, true, true, true, true, true, true, false] rfl ?_
              exact ih47 m2 v101 σ112c (by omega) (fun k_ j_ h_ => by rw [hF112 k_ j_ not_false, hF47 k_ j_ (fun w_ => h_ (w_.elim (fun x0_ => Or.inl (x0_)) (fun y0_ => y0_.elim (fun x1_ => Or.inr (Or.inl (x1_))) (fun y1_ => y1_.elim (fun x2_ => Or.inr (Or.inr (Or.inl (x2_)))) (fun y2_ => Or.inr (Or.inr (Or.inr (y2_))))))))]) (by omega)
          · skip
            refine dk_if_eq (tgt := 217) (pc' := 125) hE dX11_ask_122 (by decide) rfl (fun hc102 => ?_) (fun hc102 => absurd hc102 (by decide))
            obtain ⟨v103, hv103⟩ : ∃ z : Int, z = i + 1 := ⟨_, rfl⟩
            refine dk_iinc (pc' := 220) (ls' := [(4, 141), (0, b), (0, p), (0, d), (0, k), (0, m2), (0, v103), (0, v14)]) hE dX11_ask_217 rfl hv103.symm (by omega) rfl (by decide) rfl ?_
            refine dk_goto (tgt := 47) hE dX11_ask_220 (by decide) ?_
            refine dk_drop (ls' := [(4, 141), (0, b), (0, p), (0, d), (0, k), (0, m2), (0, v103), (9, 0)]) [true, true, true, true, true, true, true, false] rfl ?_
            exact ih47 m2 v103 σ112c (by omega) (fun k_ j_ h_ => by rw [hF112 k_ j_ not_false, hF47 k_ j_ (fun w_ => h_ (w_.elim (fun x0_ => Or.inl (x0_)) (fun y0_ => y0_.elim (fun x1_ => Or.inr (Or.inl (x1_))) (fun y1_ => y1_.elim (fun x2_ => Or.inr (Or.inr (Or.inl (x2_)))) (fun y2_ => Or.inr (Or.inr (Or.inr (y2_))))))))]) (by omega)
        refine dk_aload_n (pc' := 68) hE dX11_ask_67 rfl rfl rfl ?_
        refine dk_iload (pc' := 70) hE dX11_ask_68 rfl rfl ?_
        refine dk_iconst (pc' := 71) hE dX11_ask_70 (by decide) rfl ?_
        refine dk_iload_n (pc' := 72) hE dX11_ask_71 rfl rfl rfl ?_
        refine dk_iload (pc' := 74) hE dX11_ask_72 rfl rfl ?_
        refine dk_cV (pc' := 77) (as := [(0, i), (0, 0), (0, b), (0, k)]) hE lk_X11_430 (ct_X11_isFact l G hGd i 0 b k) dX11_ask_74 rfl is_141 rfl (by decide) (Nat.le_of_ble_eq_true rfl) ⟨rfl, (by omega)⟩ rfl (fun r105 σ104 hr105 hor105 => ?_)
        have hz106 : σ47c 170 i = σ 170 i := by rw [hF47 170 i (by omega), eσ7, dk_up_n (show ¬ (170 = 141 ∧ i = 60) by omega), eσ6, dk_up_n (show ¬ (170 = 141 ∧ i = 59) by omega), eσ5, dk_up_n (show ¬ (170 = 141 ∧ i = 58) by omega), eσ4, dk_up_n (show ¬ (170 = 141 ∧ i = 57) by omega), eσ3, dk_up_n (show ¬ (170 = 141 ∧ i = 61) by omega), eσ2, dk_up_n (show ¬ (170 = 141 ∧ i = 56) by omega), eσ1, dk_up_n (show ¬ (170 = 141 ∧ i = 55) by omega)]
        obtain ⟨v107, rfl, hfσ104, hpr105⟩ := hr105
        have hsσ104 : σ47c = σ104 := (funext (fun k => funext (fun j => hfσ104 k j not_false))).symm
        subst hsσ104
        rcases hpr105 with ⟨rfl, hpr105⟩ | rfl
        · skip
          refine dk_if_eq (tgt := 112) (pc' := 80) hE dX11_ask_77 (by decide) rfl (fun hc108 => absurd hc108 (by decide)) (fun hc108 => ?_)
          refine dk_aload_n (pc' := 81) hE dX11_ask_80 rfl rfl rfl ?_
          refine gf_11_48 (pc' := 84) (w := 172) hE fl_X11_107 dX11_ask_81 is_141 rfl rfl ?_
          refine dk_iload (pc' := 86) hE dX11_ask_84 rfl rfl ?_
          refine ga_100 (pc' := 87) hE dX11_ask_86 is_172 (by omega) rfl (fun v109 hv109 htv109 hbv109 => ?_)
          have hq109 : v109 = σ 172 i := by rw [hv109, hF47 172 i (by omega), eσ7, dk_up_n (show ¬ (172 = 141 ∧ i = 60) by omega), eσ6, dk_up_n (show ¬ (172 = 141 ∧ i = 59) by omega), eσ5, dk_up_n (show ¬ (172 = 141 ∧ i = 58) by omega), eσ4, dk_up_n (show ¬ (172 = 141 ∧ i = 57) by omega), eσ3, dk_up_n (show ¬ (172 = 141 ∧ i = 61) by omega), eσ2, dk_up_n (show ¬ (172 = 141 ∧ i = 56) by omega), eσ1, dk_up_n (show ¬ (172 = 141 ∧ i = 55) by omega)]
          refine dk_iload_n (pc' := 88) hE dX11_ask_87 rfl rfl rfl ?_
          refine dk_icmp_ne (tgt := 112) (pc' := 91) hE dX11_ask_88 (by decide) rfl (fun hc110 => ?_) (fun hc110 => ?_)
          · skip
            refine dk_aload_n (pc' := 113) hE dX11_ask_112 rfl rfl rfl ?_
            refine dk_iload (pc' := 115) hE dX11_ask_113 rfl rfl ?_
            refine dk_iconst (pc' := 116) hE dX11_ask_115 (by decide) rfl ?_
            refine dk_iload_n (pc' := 117) hE dX11_ask_116 rfl rfl rfl ?_
            refine dk_iload (pc' := 119) hE dX11_ask_117 rfl rfl ?_
            refine dk_cV (pc' := 122) (as := [(0, i), (0, 1), (0, b), (0, k)]) hE lk_X11_430 (ct_X11_isFact l G hGd i 1 b k) dX11_ask_119 rfl is_141 rfl (by decide) (Nat.le_of_ble_eq_true rfl) ⟨rfl, (by omega)⟩ rfl (fun r112 σ111 hr112 hor112 => ?_)
            have hz113 : σ47c 170 i = σ 170 i := by rw [hF47 170 i (by omega), eσ7, dk_up_n (show ¬ (170 = 141 ∧ i = 60) by omega), eσ6, dk_up_n (show ¬ (170 = 141 ∧ i = 59) by omega), eσ5, dk_up_n (show ¬ (170 = 141 ∧ i = 58) by omega), eσ4, dk_up_n (show ¬ (170 = 141 ∧ i = 57) by omega), eσ3, dk_up_n (show ¬ (170 = 141 ∧ i = 61) by omega), eσ2, dk_up_n (show ¬ (170 = 141 ∧ i = 56) by omega), eσ1, dk_up_n (show ¬ (170 = 141 ∧ i = 55) by omega)]
            obtain ⟨v114, rfl, hfσ111, hpr112⟩ := hr112
            have hsσ111 : σ47c = σ111 := (funext (fun k => funext (fun j => hfσ111 k j not_false))).symm
            subst hsσ111
            rcases hpr112 with ⟨rfl, hpr112⟩ | rfl
            · skip
              refine dk_if_eq (tgt := 217) (pc' := 125) hE dX11_ask_122 (by decide) rfl (fun hc115 => absurd hc115 (by decide)) (fun hc115 => ?_)
              refine dk_iload (pc' := 127) hE dX11_ask_125 rfl rfl ?_
              refine dk_iconst (pc' := 128) hE dX11_ask_127 (by decide) rfl ?_
              refine dk_icmp_ge (tgt := 134) (pc' := 131) hE dX11_ask_128 (by decide) rfl (fun hc116 => ?_) (fun hc116 => ?_)
              · skip
                refine dk_aload_n (pc' := 135) hE dX11_ask_134 rfl rfl rfl ?_
                refine dk_iload (pc' := 137) hE dX11_ask_135 rfl rfl ?_
                refine dk_aload_n (pc' := 138) hE dX11_ask_137 rfl rfl rfl ?_
                refine gf_11_60 (pc' := 141) hE fl_X11_452 dX11_ask_138 is_141 rfl (fun v117 hv117 htv117 hbv117 => ?_)
                refine dk_icmp_ge (tgt := 149) (pc' := 144) hE dX11_ask_141 (by decide) rfl (fun hc118 => ?_) (fun hc118 => ?_)
                · skip
                  refine dk_aload_n (pc' := 150) hE dX11_ask_149 rfl rfl rfl ?_
                  refine gf_11_60 (pc' := 153) hE fl_X11_452 dX11_ask_150 is_141 rfl (fun v119 hv119 htv119 hbv119 => ?_)
                  have hq119 : v117 = v119 := (show v119 = v117 by rw [hv119, hv117]).symm
                  subst hq119
                  clear htv119 hbv119
                  refine pf_11_60 (pc' := 156) hE fl_X11_452 dX11_ask_153 is_141 trivial rfl (fun σ120 eσ120 => ?_)
                  refine dk_aload_n (pc' := 157) hE dX11_ask_156 rfl rfl rfl ?_
                  refine gf_11_48 (pc' := 160) (w := 172) hE fl_X11_107 dX11_ask_157 is_141 rfl rfl ?_
                  refine dk_iload (pc' := 162) hE dX11_ask_160 rfl rfl ?_
                  refine ga_100 (pc' := 163) hE dX11_ask_162 is_172 (by omega) rfl (fun v121 hv121 htv121 hbv121 => ?_)
                  have hq121 : v109 = v121 := (show v121 = v109 by rw [hv121, eσ120, dk_up_n (show ¬ (172 = 141 ∧ i = 60) by omega), hv109]).symm
                  subst hq121
                  clear htv121 hbv121
                  refine dk_iload_n (pc' := 164) hE dX11_ask_163 rfl rfl rfl ?_
                  refine dk_icmp_ne (tgt := 189) (pc' := 167) hE dX11_ask_164 (by decide) rfl (fun hc122 => ?_) (fun hc122 => ?_)
                  · skip
                    refine dk_iload (pc' := 191) hE dX11_ask_189 rfl rfl ?_
                    refine dk_bipush (pc' := 193) hE dX11_ask_191 (by decide) rfl ?_
                    refine dk_icmp_gt (tgt := 217) (pc' := 196) hE dX11_ask_193 (by decide) rfl (fun hc123 => ?_) (fun hc123 => ?_)
                    · skip
                      obtain ⟨v124, hv124⟩ : ∃ z : Int, z = i + 1 := ⟨_, rfl⟩
                      refine dk_iinc (pc' := 220) (ls' := [(4, 141), (0, b), (0, p), (0, d), (0, k), (0, m), (0, v124), (0, v14)]) hE dX11_ask_217 rfl hv124.symm (by omega) rfl (by decide) rfl ?_
                      refine dk_goto (tgt := 47) hE dX11_ask_220 (by decide) ?_
                      refine dk_drop (ls' := [(4, 141), (0, b), (0, p), (0, d), (0, k), (0, m), (0, v124), (9, 0)]) [true, true, true, true, true, true, true, false] rfl ?_
                      exact ih47 m v124 σ120 (by omega) (fun k_ j_ h_ => by rw [eσ120, dk_up_n (show ¬ (k_ = 141 ∧ j_ = 60) from fun q_ => h_ (Or.inr (Or.inr (Or.inr (q_))))), hF47 k_ j_ (fun w_ => h_ (w_.elim (fun x0_ => Or.inl (x0_)) (fun y0_ => y0_.elim (fun x1_ => Or.inr (Or.inl (x1_))) (fun y1_ => y1_.elim (fun x2_ => Or.inr (Or.inr (Or.inl (x2_)))) (fun y2_ => Or.inr (Or.inr (Or.inr (y2_))))))))]) (by omega)
                    · skip
                      refine dk_aload_n (pc' := 197) hE dX11_ask_196 rfl rfl rfl ?_
                      refine dk_dup (pc' := 198) hE dX11_ask_197 (show (4 : Nat) ≠ 3 by decide) rfl ?_
                      refine gf_11_59 (pc' := 201) hE fl_X11_449 dX11_ask_198 is_141 rfl (fun v125 hv125 htv125 hbv125 => ?_)
                      refine dk_aload_n (pc' := 202) hE dX11_ask_201 rfl rfl rfl ?_
                      refine dk_aload_n (pc' := 203) hE dX11_ask_202 rfl rfl rfl ?_
                      refine gf_11_48 (pc' := 206) (w := 172) hE fl_X11_107 dX11_ask_203 is_141 rfl rfl ?_
                      refine dk_iload (pc' := 208) hE dX11_ask_206 rfl rfl ?_
                      refine ga_100 (pc' := 209) hE dX11_ask_208 is_172 (by omega) rfl (fun v126 hv126 htv126 hbv126 => ?_)
                      have hq126 : v109 = v126 := (show v126 = v109 by rw [hv126, hv121]).symm
                      subst hq126
                      clear htv126 hbv126
                      have gv109 := hG.1 i (by omega) (by omega)
                      refine dk_iconst (pc' := 210) hE dX11_ask_209 (by decide) rfl ?_
                      refine dk_cV (pc' := 213) (as := [(0, v109), (0, 0)]) hE lk_X11_362 (ct_X11_loadOf l G hGd v109 0) dX11_ask_210 rfl is_141 rfl (by decide) (Nat.le_of_ble_eq_true rfl) ⟨rfl, (by omega), (by omega)⟩ rfl (fun r128 σ127 hr128 hor128 => ?_)
                      obtain ⟨v129, rfl, hfσ127, hpr128⟩ := hr128
                      have hsσ127 : σ120 = σ127 := (funext (fun k => funext (fun j => hfσ127 k j not_false))).symm
                      subst hsσ127
                      refine dk_iaddW (pc' := 214) hE dX11_ask_213 rfl (fun v130 hv130 _ => ?_)
                      refine pf_11_59 (pc' := 217) hE fl_X11_449 dX11_ask_214 is_141 trivial rfl (fun σ131 eσ131 => ?_)
                      obtain ⟨v132, hv132⟩ : ∃ z : Int, z = i + 1 := ⟨_, rfl⟩
                      refine dk_iinc (pc' := 220) (ls' := [(4, 141), (0, b), (0, p), (0, d), (0, k), (0, m), (0, v132), (0, v14)]) hE dX11_ask_217 rfl hv132.symm (by omega) rfl (by decide) rfl ?_
                      refine dk_goto (tgt := 47) hE dX11_ask_220 (by decide) ?_
                      refine dk_drop (ls' := [(4, 141), (0, b), (0, p), (0, d), (0, k), (0, m), (0, v132), (9, 0)]) [true, true, true, true, true, true, true, false] rfl ?_
                      exact ih47 m v132 σ131 (by omega) (fun k_ j_ h_ => by rw [eσ131, dk_up_n (show ¬ (k_ = 141 ∧ j_ = 59) from fun q_ => h_ (Or.inr (Or.inr (Or.inl (q_))))), eσ120, dk_up_n (show ¬ (k_ = 141 ∧ j_ = 60) from fun q_ => h_ (Or.inr (Or.inr (Or.inr (q_))))), hF47 k_ j_ (fun w_ => h_ (w_.elim (fun x0_ => Or.inl (x0_)) (fun y0_ => y0_.elim (fun x1_ => Or.inr (Or.inl (x1_))) (fun y1_ => y1_.elim (fun x2_ => Or.inr (Or.inr (Or.inl (x2_)))) (fun y2_ => Or.inr (Or.inr (Or.inr (y2_))))))))]) (by omega)
                  · skip
                    refine dk_aload_n (pc' := 168) hE dX11_ask_167 rfl rfl rfl ?_
                    refine dk_iload (pc' := 170) hE dX11_ask_168 rfl rfl ?_
                    refine dk_aload_n (pc' := 171) hE dX11_ask_170 rfl rfl rfl ?_
                    refine gf_11_58 (pc' := 174) hE fl_X11_446 dX11_ask_171 is_141 rfl (fun v133 hv133 htv133 hbv133 => ?_)
                    refine dk_icmp_ge (tgt := 182) (pc' := 177) hE dX11_ask_174 (by decide) rfl (fun hc134 => ?_) (fun hc134 => ?_)
                    · skip
                      refine dk_aload_n (pc' := 183) hE dX11_ask_182 rfl rfl rfl ?_
                      refine gf_11_58 (pc' := 186) hE fl_X11_446 dX11_ask_183 is_141 rfl (fun v135 hv135 htv135 hbv135 => ?_)
                      have hq135 : v133 = v135 := (show v135 = v133 by rw [hv135, hv133]).symm
                      subst hq135
                      clear htv135 hbv135
                      refine pf_11_58 (pc' := 189) hE fl_X11_446 dX11_ask_186 is_141 trivial rfl (fun σ136 eσ136 => ?_)
                      refine dk_iload (pc' := 191) hE dX11_ask_189 rfl rfl ?_
                      refine dk_bipush (pc' := 193) hE dX11_ask_191 (by decide) rfl ?_
                      refine dk_icmp_gt (tgt := 217) (pc' := 196) hE dX11_ask_193 (by decide) rfl (fun hc137 => ?_) (fun hc137 => ?_)
                      · skip
                        obtain ⟨v138, hv138⟩ : ∃ z : Int, z = i + 1 := ⟨_, rfl⟩
                        refine dk_iinc (pc' := 220) (ls' := [(4, 141), (0, b), (0, p), (0, d), (0, k), (0, m), (0, v138), (0, v14)]) hE dX11_ask_217 rfl hv138.symm (by omega) rfl (by decide) rfl ?_
                        refine dk_goto (tgt := 47) hE dX11_ask_220 (by decide) ?_
                        refine dk_drop (ls' := [(4, 141), (0, b), (0, p), (0, d), (0, k), (0, m), (0, v138), (9, 0)]) [true, true, true, true, true, true, true, false] rfl ?_
                        exact ih47 m v138 σ136 (by omega) (fun k_ j_ h_ => by rw [eσ136, dk_up_n (show ¬ (k_ = 141 ∧ j_ = 58) from fun q_ => h_ (Or.inr (Or.inl (q_)))), eσ120, dk_up_n (show ¬ (k_ = 141 ∧ j_ = 60) from fun q_ => h_ (Or.inr (Or.inr (Or.inr (q_))))), hF47 k_ j_ (fun w_ => h_ (w_.elim (fun x0_ => Or.inl (x0_)) (fun y0_ => y0_.elim (fun x1_ => Or.inr (Or.inl (x1_))) (fun y1_ => y1_.elim (fun x2_ => Or.inr (Or.inr (Or.inl (x2_)))) (fun y2_ => Or.inr (Or.inr (Or.inr (y2_))))))))]) (by omega)
                      · skip
                        refine dk_aload_n (pc' := 197) hE dX11_ask_196 rfl rfl rfl ?_
                        refine dk_dup (pc' := 198) hE dX11_ask_197 (show (4 : Nat) ≠ 3 by decide) rfl ?_
                        refine gf_11_59 (pc' := 201) hE fl_X11_449 dX11_ask_198 is_141 rfl (fun v139 hv139 htv139 hbv139 => ?_)
                        refine dk_aload_n (pc' := 202) hE dX11_ask_201 rfl rfl rfl ?_
                        refine dk_aload_n (pc' := 203) hE dX11_ask_202 rfl rfl rfl ?_
                        refine gf_11_48 (pc' := 206) (w := 172) hE fl_X11_107 dX11_ask_203 is_141 rfl rfl ?_
                        refine dk_iload (pc' := 208) hE dX11_ask_206 rfl rfl ?_
                        refine ga_100 (pc' := 209) hE dX11_ask_208 is_172 (by omega) rfl (fun v140 hv140 htv140 hbv140 => ?_)
                        have hq140 : v109 = v140 := (show v140 = v109 by rw [hv140, eσ136, dk_up_n (show ¬ (172 = 141 ∧ i = 58) by omega), hv121]).symm
                        subst hq140
                        clear htv140 hbv140
                        have gv109 := hG.1 i (by omega) (by omega)
                        refine dk_iconst (pc' := 210) hE dX11_ask_209 (by decide) rfl ?_
                        refine dk_cV (pc' := 213) (as := [(0, v109), (0, 0)]) hE lk_X11_362 (ct_X11_loadOf l G hGd v109 0) dX11_ask_210 rfl is_141 rfl (by decide) (Nat.le_of_ble_eq_true rfl) ⟨rfl, (by omega), (by omega)⟩ rfl (fun r142 σ141 hr142 hor142 => ?_)
                        obtain ⟨v143, rfl, hfσ141, hpr142⟩ := hr142
                        have hsσ141 : σ136 = σ141 := (funext (fun k => funext (fun j => hfσ141 k j not_false))).symm
                        subst hsσ141
                        refine dk_iaddW (pc' := 214) hE dX11_ask_213 rfl (fun v144 hv144 _ => ?_)
                        refine pf_11_59 (pc' := 217) hE fl_X11_449 dX11_ask_214 is_141 trivial rfl (fun σ145 eσ145 => ?_)
                        obtain ⟨v146, hv146⟩ : ∃ z : Int, z = i + 1 := ⟨_, rfl⟩
                        refine dk_iinc (pc' := 220) (ls' := [(4, 141), (0, b), (0, p), (0, d), (0, k), (0, m), (0, v146), (0, v14)]) hE dX11_ask_217 rfl hv146.symm (by omega) rfl (by decide) rfl ?_
                        refine dk_goto (tgt := 47) hE dX11_ask_220 (by decide) ?_
                        refine dk_drop (ls' := [(4, 141), (0, b), (0, p), (0, d), (0, k), (0, m), (0, v146), (9, 0)]) [true, true, true, true, true, true, true, false] rfl ?_
                        exact ih47 m v146 σ145 (by omega) (fun k_ j_ h_ => by rw [eσ145, dk_up_n (show ¬ (k_ = 141 ∧ j_ = 59) from fun q_ => h_ (Or.inr (Or.inr (Or.inl (q_))))), eσ136, dk_up_n (show ¬ (k_ = 141 ∧ j_ = 58) from fun q_ => h_ (Or.inr (Or.inl (q_)))), eσ120, dk_up_n (show ¬ (k_ = 141 ∧ j_ = 60) from fun q_ => h_ (Or.inr (Or.inr (Or.inr (q_))))), hF47 k_ j_ (fun w_ => h_ (w_.elim (fun x0_ => Or.inl (x0_)) (fun y0_ => y0_.elim (fun x1_ => Or.inr (Or.inl (x1_))) (fun y1_ => y1_.elim (fun x2_ => Or.inr (Or.inr (Or.inl (x2_)))) (fun y2_ => Or.inr (Or.inr (Or.inr (y2_))))))))]) (by omega)
                    · skip
                      refine dk_iload (pc' := 179) hE dX11_ask_177 rfl rfl ?_
                      refine dk_goto (tgt := 186) hE dX11_ask_179 (by decide) ?_
                      refine pf_11_58 (pc' := 189) hE fl_X11_446 dX11_ask_186 is_141 trivial rfl (fun σ147 eσ147 => ?_)
                      refine dk_iload (pc' := 191) hE dX11_ask_189 rfl rfl ?_
                      refine dk_bipush (pc' := 193) hE dX11_ask_191 (by decide) rfl ?_
                      refine dk_icmp_gt (tgt := 217) (pc' := 196) hE dX11_ask_193 (by decide) rfl (fun hc148 => ?_) (fun hc148 => ?_)
                      · skip
                        obtain ⟨v149, hv149⟩ : ∃ z : Int, z = i + 1 := ⟨_, rfl⟩
                        refine dk_iinc (pc' := 220) (ls' := [(4, 141), (0, b), (0, p), (0, d), (0, k), (0, m), (0, v149), (0, v14)]) hE dX11_ask_217 rfl hv149.symm (by omega) rfl (by decide) rfl ?_
                        refine dk_goto (tgt := 47) hE dX11_ask_220 (by decide) ?_
                        refine dk_drop (ls' := [(4, 141), (0, b), (0, p), (0, d), (0, k), (0, m), (0, v149), (9, 0)]) [true, true, true, true, true, true, true, false] rfl ?_
                        exact ih47 m v149 σ147 (by omega) (fun k_ j_ h_ => by rw [eσ147, dk_up_n (show ¬ (k_ = 141 ∧ j_ = 58) from fun q_ => h_ (Or.inr (Or.inl (q_)))), eσ120, dk_up_n (show ¬ (k_ = 141 ∧ j_ = 60) from fun q_ => h_ (Or.inr (Or.inr (Or.inr (q_))))), hF47 k_ j_ (fun w_ => h_ (w_.elim (fun x0_ => Or.inl (x0_)) (fun y0_ => y0_.elim (fun x1_ => Or.inr (Or.inl (x1_))) (fun y1_ => y1_.elim (fun x2_ => Or.inr (Or.inr (Or.inl (x2_)))) (fun y2_ => Or.inr (Or.inr (Or.inr (y2_))))))))]) (by omega)
                      · skip
                        refine dk_aload_n (pc' := 197) hE dX11_ask_196 rfl rfl rfl ?_
                        refine dk_dup (pc' := 198) hE dX11_ask_197 (show (4 : Nat) ≠ 3 by decide) rfl ?_
                        refine gf_11_59 (pc' := 201) hE fl_X11_449 dX11_ask_198 is_141 rfl (fun v150 hv150 htv150 hbv150 => ?_)
                        refine dk_aload_n (pc' := 202) hE dX11_ask_201 rfl rfl rfl ?_
                        refine dk_aload_n (pc' := 203) hE dX11_ask_202 rfl rfl rfl ?_
                        refine gf_11_48 (pc' := 206) (w := 172) hE fl_X11_107 dX11_ask_203 is_141 rfl rfl ?_
                        refine dk_iload (pc' := 208) hE dX11_ask_206 rfl rfl ?_
                        refine ga_100 (pc' := 209) hE dX11_ask_208 is_172 (by omega) rfl (fun v151 hv151 htv151 hbv151 => ?_)
                        have hq151 : v109 = v151 := (show v151 = v109 by rw [hv151, eσ147, dk_up_n (show ¬ (172 = 141 ∧ i = 58) by omega), hv121]).symm
                        subst hq151
                        clear htv151 hbv151
                        have gv109 := hG.1 i (by omega) (by omega)
                        refine dk_iconst (pc' := 210) hE dX11_ask_209 (by decide) rfl ?_
                        refine dk_cV (pc' := 213) (as := [(0, v109), (0, 0)]) hE lk_X11_362 (ct_X11_loadOf l G hGd v109 0) dX11_ask_210 rfl is_141 rfl (by decide) (Nat.le_of_ble_eq_true rfl) ⟨rfl, (by omega), (by omega)⟩ rfl (fun r153 σ152 hr153 hor153 => ?_)
                        obtain ⟨v154, rfl, hfσ152, hpr153⟩ := hr153
                        have hsσ152 : σ147 = σ152 := (funext (fun k => funext (fun j => hfσ152 k j not_false))).symm
                        subst hsσ152
                        refine dk_iaddW (pc' := 214) hE dX11_ask_213 rfl (fun v155 hv155 _ => ?_)
                        refine pf_11_59 (pc' := 217) hE fl_X11_449 dX11_ask_214 is_141 trivial rfl (fun σ156 eσ156 => ?_)
                        obtain ⟨v157, hv157⟩ : ∃ z : Int, z = i + 1 := ⟨_, rfl⟩
                        refine dk_iinc (pc' := 220) (ls' := [(4, 141), (0, b), (0, p), (0, d), (0, k), (0, m), (0, v157), (0, v14)]) hE dX11_ask_217 rfl hv157.symm (by omega) rfl (by decide) rfl ?_
                        refine dk_goto (tgt := 47) hE dX11_ask_220 (by decide) ?_
                        refine dk_drop (ls' := [(4, 141), (0, b), (0, p), (0, d), (0, k), (0, m), (0, v157), (9, 0)]) [true, true, true, true, true, true, true, false] rfl ?_
                        exact ih47 m v157 σ156 (by omega) (fun k_ j_ h_ => by rw [eσ156, dk_up_n (show ¬ (k_ = 141 ∧ j_ = 59) from fun q_ => h_ (Or.inr (Or.inr (Or.inl (q_))))), eσ147, dk_up_n (show ¬ (k_ = 141 ∧ j_ = 58) from fun q_ => h_ (Or.inr (Or.inl (q_)))), eσ120, dk_up_n (show ¬ (k_ = 141 ∧ j_ = 60) from fun q_ => h_ (Or.inr (Or.inr (Or.inr (q_))))), hF47 k_ j_ (fun w_ => h_ (w_.elim (fun x0_ => Or.inl (x0_)) (fun y0_ => y0_.elim (fun x1_ => Or.inr (Or.inl (x1_))) (fun y1_ => y1_.elim (fun x2_ => Or.inr (Or.inr (Or.inl (x2_)))) (fun y2_ => Or.inr (Or.inr (Or.inr (y2_))))))))]) (by omega)
                · skip
                  refine dk_iload (pc' := 146) hE dX11_ask_144 rfl rfl ?_
                  refine dk_goto (tgt := 153) hE dX11_ask_146 (by decide) ?_
                  refine pf_11_60 (pc' := 156) hE fl_X11_452 dX11_ask_153 is_141 trivial rfl (fun σ158 eσ158 => ?_)
                  refine dk_aload_n (pc' := 157) hE dX11_ask_156 rfl rfl rfl ?_
                  refine gf_11_48 (pc' := 160) (w := 172) hE fl_X11_107 dX11_ask_157 is_141 rfl rfl ?_
                  refine dk_iload (pc' := 162) hE dX11_ask_160 rfl rfl ?_
                  refine ga_100 (pc' := 163) hE dX11_ask_162 is_172 (by omega) rfl (fun v159 hv159 htv159 hbv159 => ?_)
                  have hq159 : v109 = v159 := (show v159 = v109 by rw [hv159, eσ158, dk_up_n (show ¬ (172 = 141 ∧ i = 60) by omega), hv109]).symm
                  subst hq159
                  clear htv159 hbv159
                  refine dk_iload_n (pc' := 164) hE dX11_ask_163 rfl rfl rfl ?_
                  refine dk_icmp_ne (tgt := 189) (pc' := 167) hE dX11_ask_164 (by decide) rfl (fun hc160 => ?_) (fun hc160 => ?_)
                  · skip
                    refine dk_iload (pc' := 191) hE dX11_ask_189 rfl rfl ?_
                    refine dk_bipush (pc' := 193) hE dX11_ask_191 (by decide) rfl ?_
                    refine dk_icmp_gt (tgt := 217) (pc' := 196) hE dX11_ask_193 (by decide) rfl (fun hc161 => ?_) (fun hc161 => ?_)
                    · skip
                      obtain ⟨v162, hv162⟩ : ∃ z : Int, z = i + 1 := ⟨_, rfl⟩
                      refine dk_iinc (pc' := 220) (ls' := [(4, 141), (0, b), (0, p), (0, d), (0, k), (0, m), (0, v162), (0, v14)]) hE dX11_ask_217 rfl hv162.symm (by omega) rfl (by decide) rfl ?_
                      refine dk_goto (tgt := 47) hE dX11_ask_220 (by decide) ?_
                      refine dk_drop (ls' := [(4, 141), (0, b), (0, p), (0, d), (0, k), (0, m), (0, v162), (9, 0)]) [true, true, true, true, true, true, true, false] rfl ?_
                      exact ih47 m v162 σ158 (by omega) (fun k_ j_ h_ => by rw [eσ158, dk_up_n (show ¬ (k_ = 141 ∧ j_ = 60) from fun q_ => h_ (Or.inr (Or.inr (Or.inr (q_))))), hF47 k_ j_ (fun w_ => h_ (w_.elim (fun x0_ => Or.inl (x0_)) (fun y0_ => y0_.elim (fun x1_ => Or.inr (Or.inl (x1_))) (fun y1_ => y1_.elim (fun x2_ => Or.inr (Or.inr (Or.inl (x2_)))) (fun y2_ => Or.inr (Or.inr (Or.inr (y2_))))))))]) (by omega)
                    · skip
                      refine dk_aload_n (pc' := 197) hE dX11_ask_196 rfl rfl rfl ?_
                      refine dk_dup (pc' := 198) hE dX11_ask_197 (show (4 : Nat) ≠ 3 by decide) rfl ?_
                      refine gf_11_59 (pc' := 201) hE fl_X11_449 dX11_ask_198 is_141 rfl (fun v163 hv163 htv163 hbv163 => ?_)
                      refine dk_aload_n (pc' := 202) hE dX11_ask_201 rfl rfl rfl ?_
                      refine dk_aload_n (pc' := 203) hE dX11_ask_202 rfl rfl rfl ?_
                      refine gf_11_48 (pc' := 206) (w := 172) hE fl_X11_107 dX11_ask_203 is_141 rfl rfl ?_
                      refine dk_iload (pc' := 208) hE dX11_ask_206 rfl rfl ?_
                      refine ga_100 (pc' := 209) hE dX11_ask_208 is_172 (by omega) rfl (fun v164 hv164 htv164 hbv164 => ?_)
                      have hq164 : v109 = v164 := (show v164 = v109 by rw [hv164, hv159]).symm
                      subst hq164
                      clear htv164 hbv164
                      have gv109 := hG.1 i (by omega) (by omega)
                      refine dk_iconst (pc' := 210) hE dX11_ask_209 (by decide) rfl ?_
                      refine dk_cV (pc' := 213) (as := [(0, v109), (0, 0)]) hE lk_X11_362 (ct_X11_loadOf l G hGd v109 0) dX11_ask_210 rfl is_141 rfl (by decide) (Nat.le_of_ble_eq_true rfl) ⟨rfl, (by omega), (by omega)⟩ rfl (fun r166 σ165 hr166 hor166 => ?_)
                      obtain ⟨v167, rfl, hfσ165, hpr166⟩ := hr166
                      have hsσ165 : σ158 = σ165 := (funext (fun k => funext (fun j => hfσ165 k j not_false))).symm
                      subst hsσ165
                      refine dk_iaddW (pc' := 214) hE dX11_ask_213 rfl (fun v168 hv168 _ => ?_)
                      refine pf_11_59 (pc' := 217) hE fl_X11_449 dX11_ask_214 is_141 trivial rfl (fun σ169 eσ169 => ?_)
                      obtain ⟨v170, hv170⟩ : ∃ z : Int, z = i + 1 := ⟨_, rfl⟩
                      refine dk_iinc (pc' := 220) (ls' := [(4, 141), (0, b), (0, p), (0, d), (0, k), (0, m), (0, v170), (0, v14)]) hE dX11_ask_217 rfl hv170.symm (by omega) rfl (by decide) rfl ?_
                      refine dk_goto (tgt := 47) hE dX11_ask_220 (by decide) ?_
                      refine dk_drop (ls' := [(4, 141), (0, b), (0, p), (0, d), (0, k), (0, m), (0, v170), (9, 0)]) [true, true, true, true, true, true, true, false] rfl ?_
                      exact ih47 m v170 σ169 (by omega) (fun k_ j_ h_ => by rw [eσ169, dk_up_n (show ¬ (k_ = 141 ∧ j_ = 59) from fun q_ => h_ (Or.inr (Or.inr (Or.inl (q_))))), eσ158, dk_up_n (show ¬ (k_ = 141 ∧ j_ = 60) from fun q_ => h_ (Or.inr (Or.inr (Or.inr (q_))))), hF47 k_ j_ (fun w_ => h_ (w_.elim (fun x0_ => Or.inl (x0_)) (fun y0_ => y0_.elim (fun x1_ => Or.inr (Or.inl (x1_))) (fun y1_ => y1_.elim (fun x2_ => Or.inr (Or.inr (Or.inl (x2_)))) (fun y2_ => Or.inr (Or.inr (Or.inr (y2_))))))))]) (by omega)
                  · skip
                    refine dk_aload_n (pc' := 168) hE dX11_ask_167 rfl rfl rfl ?_
                    refine dk_iload (pc' := 170) hE dX11_ask_168 rfl rfl ?_
                    refine dk_aload_n (pc' := 171) hE dX11_ask_170 rfl rfl rfl ?_
                    refine gf_11_58 (pc' := 174) hE fl_X11_446 dX11_ask_171 is_141 rfl (fun v171 hv171 htv171 hbv171 => ?_)
                    refine dk_icmp_ge (tgt := 182) (pc' := 177) hE dX11_ask_174 (by decide) rfl (fun hc172 => ?_) (fun hc172 => ?_)
                    · skip
                      refine dk_aload_n (pc' := 183) hE dX11_ask_182 rfl rfl rfl ?_
                      refine gf_11_58 (pc' := 186) hE fl_X11_446 dX11_ask_183 is_141 rfl (fun v173 hv173 htv173 hbv173 => ?_)
                      have hq173 : v171 = v173 := (show v173 = v171 by rw [hv173, hv171]).symm
                      subst hq173
                      clear htv173 hbv173
                      refine pf_11_58 (pc' := 189) hE fl_X11_446 dX11_ask_186 is_141 trivial rfl (fun σ174 eσ174 => ?_)
                      refine dk_iload (pc' := 191) hE dX11_ask_189 rfl rfl ?_
                      refine dk_bipush (pc' := 193) hE dX11_ask_191 (by decide) rfl ?_
                      refine dk_icmp_gt (tgt := 217) (pc' := 196) hE dX11_ask_193 (by decide) rfl (fun hc175 => ?_) (fun hc175 => ?_)
                      · skip
                        obtain ⟨v176, hv176⟩ : ∃ z : Int, z = i + 1 := ⟨_, rfl⟩
                        refine dk_iinc (pc' := 220) (ls' := [(4, 141), (0, b), (0, p), (0, d), (0, k), (0, m), (0, v176), (0, v14)]) hE dX11_ask_217 rfl hv176.symm (by omega) rfl (by decide) rfl ?_
                        refine dk_goto (tgt := 47) hE dX11_ask_220 (by decide) ?_
                        refine dk_drop (ls' := [(4, 141), (0, b), (0, p), (0, d), (0, k), (0, m), (0, v176), (9, 0)]) [true, true, true, true, true, true, true, false] rfl ?_
                        exact ih47 m v176 σ174 (by omega) (fun k_ j_ h_ => by rw [eσ174, dk_up_n (show ¬ (k_ = 141 ∧ j_ = 58) from fun q_ => h_ (Or.inr (Or.inl (q_)))), eσ158, dk_up_n (show ¬ (k_ = 141 ∧ j_ = 60) from fun q_ => h_ (Or.inr (Or.inr (Or.inr (q_))))), hF47 k_ j_ (fun w_ => h_ (w_.elim (fun x0_ => Or.inl (x0_)) (fun y0_ => y0_.elim (fun x1_ => Or.inr (Or.inl (x1_))) (fun y1_ => y1_.elim (fun x2_ => Or.inr (Or.inr (Or.inl (x2_)))) (fun y2_ => Or.inr (Or.inr (Or.inr (y2_))))))))]) (by omega)
                      · skip
                        refine dk_aload_n (pc' := 197) hE dX11_ask_196 rfl rfl rfl ?_
                        refine dk_dup (pc' := 198) hE dX11_ask_197 (show (4 : Nat) ≠ 3 by decide) rfl ?_
                        refine gf_11_59 (pc' := 201) hE fl_X11_449 dX11_ask_198 is_141 rfl (fun v177 hv177 htv177 hbv177 => ?_)
                        refine dk_aload_n (pc' := 202) hE dX11_ask_201 rfl rfl rfl ?_
                        refine dk_aload_n (pc' := 203) hE dX11_ask_202 rfl rfl rfl ?_
                        refine gf_11_48 (pc' := 206) (w := 172) hE fl_X11_107 dX11_ask_203 is_141 rfl rfl ?_
                        refine dk_iload (pc' := 208) hE dX11_ask_206 rfl rfl ?_
                        refine ga_100 (pc' := 209) hE dX11_ask_208 is_172 (by omega) rfl (fun v178 hv178 htv178 hbv178 => ?_)
                        have hq178 : v109 = v178 := (show v178 = v109 by rw [hv178, eσ174, dk_up_n (show ¬ (172 = 141 ∧ i = 58) by omega), hv159]).symm
                        subst hq178
                        clear htv178 hbv178
                        have gv109 := hG.1 i (by omega) (by omega)
                        refine dk_iconst (pc' := 210) hE dX11_ask_209 (by decide) rfl ?_
                        refine dk_cV (pc' := 213) (as := [(0, v109), (0, 0)]) hE lk_X11_362 (ct_X11_loadOf l G hGd v109 0) dX11_ask_210 rfl is_141 rfl (by decide) (Nat.le_of_ble_eq_true rfl) ⟨rfl, (by omega), (by omega)⟩ rfl (fun r180 σ179 hr180 hor180 => ?_)
                        obtain ⟨v181, rfl, hfσ179, hpr180⟩ := hr180
                        have hsσ179 : σ174 = σ179 := (funext (fun k => funext (fun j => hfσ179 k j not_false))).symm
                        subst hsσ179
                        refine dk_iaddW (pc' := 214) hE dX11_ask_213 rfl (fun v182 hv182 _ => ?_)
                        refine pf_11_59 (pc' := 217) hE fl_X11_449 dX11_ask_214 is_141 trivial rfl (fun σ183 eσ183 => ?_)
                        obtain ⟨v184, hv184⟩ : ∃ z : Int, z = i + 1 := ⟨_, rfl⟩
                        refine dk_iinc (pc' := 220) (ls' := [(4, 141), (0, b), (0, p), (0, d), (0, k), (0, m), (0, v184), (0, v14)]) hE dX11_ask_217 rfl hv184.symm (by omega) rfl (by decide) rfl ?_
                        refine dk_goto (tgt := 47) hE dX11_ask_220 (by decide) ?_
                        refine dk_drop (ls' := [(4, 141), (0, b), (0, p), (0, d), (0, k), (0, m), (0, v184), (9, 0)]) [true, true, true, true, true, true, true, false] rfl ?_
                        exact ih47 m v184 σ183 (by omega) (fun k_ j_ h_ => by rw [eσ183, dk_up_n (show ¬ (k_ = 141 ∧ j_ = 59) from fun q_ => h_ (Or.inr (Or.inr (Or.inl (q_))))), eσ174, dk_up_n (show ¬ (k_ = 141 ∧ j_ = 58) from fun q_ => h_ (Or.inr (Or.inl (q_)))), eσ158, dk_up_n (show ¬ (k_ = 141 ∧ j_ = 60) from fun q_ => h_ (Or.inr (Or.inr (Or.inr (q_))))), hF47 k_ j_ (fun w_ => h_ (w_.elim (fun x0_ => Or.inl (x0_)) (fun y0_ => y0_.elim (fun x1_ => Or.inr (Or.inl (x1_))) (fun y1_ => y1_.elim (fun x2_ => Or.inr (Or.inr (Or.inl (x2_)))) (fun y2_ => Or.inr (Or.inr (Or.inr (y2_))))))))]) (by omega)
                    · skip
                      refine dk_iload (pc' := 179) hE dX11_ask_177 rfl rfl ?_
                      refine dk_goto (tgt := 186) hE dX11_ask_179 (by decide) ?_
                      refine pf_11_58 (pc' := 189) hE fl_X11_446 dX11_ask_186 is_141 trivial rfl (fun σ185 eσ185 => ?_)
                      refine dk_iload (pc' := 191) hE dX11_ask_189 rfl rfl ?_
                      refine dk_bipush (pc' := 193) hE dX11_ask_191 (by decide) rfl ?_
                      refine dk_icmp_gt (tgt := 217) (pc' := 196) hE dX11_ask_193 (by decide) rfl (fun hc186 => ?_) (fun hc186 => ?_)
                      · skip
                        obtain ⟨v187, hv187⟩ : ∃ z : Int, z = i + 1 := ⟨_, rfl⟩
                        refine dk_iinc (pc' := 220) (ls' := [(4, 141), (0, b), (0, p), (0, d), (0, k), (0, m), (0, v187), (0, v14)]) hE dX11_ask_217 rfl hv187.symm (by omega) rfl (by decide) rfl ?_
                        refine dk_goto (tgt := 47) hE dX11_ask_220 (by decide) ?_
                        refine dk_drop (ls' := [(4, 141), (0, b), (0, p), (0, d), (0, k), (0, m), (0, v187), (9, 0)]) [true, true, true, true, true, true, true, false] rfl ?_
                        exact ih47 m v187 σ185 (by omega) (fun k_ j_ h_ => by rw [eσ185, dk_up_n (show ¬ (k_ = 141 ∧ j_ = 58) from fun q_ => h_ (Or.inr (Or.inl (q_)))), eσ158, dk_up_n (show ¬ (k_ = 141 ∧ j_ = 60) from fun q_ => h_ (Or.inr (Or.inr (Or.inr (q_))))), hF47 k_ j_ (fun w_ => h_ (w_.elim (fun x0_ => Or.inl (x0_)) (fun y0_ => y0_.elim (fun x1_ => Or.inr (Or.inl (x1_))) (fun y1_ => y1_.elim (fun x2_ => Or.inr (Or.inr (Or.inl (x2_)))) (fun y2_ => Or.inr (Or.inr (Or.inr (y2_))))))))]) (by omega)
                      · skip
                        refine dk_aload_n (pc' := 197) hE dX11_ask_196 rfl rfl rfl ?_
                        refine dk_dup (pc' := 198) hE dX11_ask_197 (show (4 : Nat) ≠ 3 by decide) rfl ?_
                        refine gf_11_59 (pc' := 201) hE fl_X11_449 dX11_ask_198 is_141 rfl (fun v188 hv188 htv188 hbv188 => ?_)
                        refine dk_aload_n (pc' := 202) hE dX11_ask_201 rfl rfl rfl ?_
                        refine dk_aload_n (pc' := 203) hE dX11_ask_202 rfl rfl rfl ?_
                        refine gf_11_48 (pc' := 206) (w := 172) hE fl_X11_107 dX11_ask_203 is_141 rfl rfl ?_
                        refine dk_iload (pc' := 208) hE dX11_ask_206 rfl rfl ?_
                        refine ga_100 (pc' := 209) hE dX11_ask_208 is_172 (by omega) rfl (fun v189 hv189 htv189 hbv189 => ?_)
                        have hq189 : v109 = v189 := (show v189 = v109 by rw [hv189, eσ185, dk_up_n (show ¬ (172 = 141 ∧ i = 58) by omega), hv159]).symm
                        subst hq189
                        clear htv189 hbv189
                        have gv109 := hG.1 i (by omega) (by omega)
                        refine dk_iconst (pc' := 210) hE dX11_ask_209 (by decide) rfl ?_
                        refine dk_cV (pc' := 213) (as := [(0, v109), (0, 0)]) hE lk_X11_362 (ct_X11_loadOf l G hGd v109 0) dX11_ask_210 rfl is_141 rfl (by decide) (Nat.le_of_ble_eq_true rfl) ⟨rfl, (by omega), (by omega)⟩ rfl (fun r191 σ190 hr191 hor191 => ?_)
                        obtain ⟨v192, rfl, hfσ190, hpr191⟩ := hr191
                        have hsσ190 : σ185 = σ190 := (funext (fun k => funext (fun j => hfσ190 k j not_false))).symm
                        subst hsσ190
                        refine dk_iaddW (pc' := 214) hE dX11_ask_213 rfl (fun v193 hv193 _ => ?_)
                        refine pf_11_59 (pc' := 217) hE fl_X11_449 dX11_ask_214 is_141 trivial rfl (fun σ194 eσ194 => ?_)
                        obtain ⟨v195, hv195⟩ : ∃ z : Int, z = i + 1 := ⟨_, rfl⟩
                        refine dk_iinc (pc' := 220) (ls' := [(4, 141), (0, b), (0, p), (0, d), (0, k), (0, m), (0, v195), (0, v14)]) hE dX11_ask_217 rfl hv195.symm (by omega) rfl (by decide) rfl ?_
                        refine dk_goto (tgt := 47) hE dX11_ask_220 (by decide) ?_
                        refine dk_drop (ls' := [(4, 141), (0, b), (0, p), (0, d), (0, k), (0, m), (0, v195), (9, 0)]) [true, true, true, true, true, true, true, false] rfl ?_
                        exact ih47 m v195 σ194 (by omega) (fun k_ j_ h_ => by rw [eσ194, dk_up_n (show ¬ (k_ = 141 ∧ j_ = 59) from fun q_ => h_ (Or.inr (Or.inr (Or.inl (q_))))), eσ185, dk_up_n (show ¬ (k_ = 141 ∧ j_ = 58) from fun q_ => h_ (Or.inr (Or.inl (q_)))), eσ158, dk_up_n (show ¬ (k_ = 141 ∧ j_ = 60) from fun q_ => h_ (Or.inr (Or.inr (Or.inr (q_))))), hF47 k_ j_ (fun w_ => h_ (w_.elim (fun x0_ => Or.inl (x0_)) (fun y0_ => y0_.elim (fun x1_ => Or.inr (Or.inl (x1_))) (fun y1_ => y1_.elim (fun x2_ => Or.inr (Or.inr (Or.inl (x2_)))) (fun y2_ => Or.inr (Or.inr (Or.inr (y2_))))))))]) (by omega)
              · skip
                refine dk_goto (tgt := 217) hE dX11_ask_131 (by decide) ?_
                obtain ⟨v196, hv196⟩ : ∃ z : Int, z = i + 1 := ⟨_, rfl⟩
                refine dk_iinc (pc' := 220) (ls' := [(4, 141), (0, b), (0, p), (0, d), (0, k), (0, m), (0, v196), (0, v14)]) hE dX11_ask_217 rfl hv196.symm (by omega) rfl (by decide) rfl ?_
                refine dk_goto (tgt := 47) hE dX11_ask_220 (by decide) ?_
                refine dk_drop (ls' := [(4, 141), (0, b), (0, p), (0, d), (0, k), (0, m), (0, v196), (9, 0)]) [true, true, true, true, true, true, true, false] rfl ?_
                exact ih47 m v196 σ47c (by omega) (fun k_ j_ h_ => by rw [hF47 k_ j_ (fun w_ => h_ (w_.elim (fun x0_ => Or.inl (x0_)) (fun y0_ => y0_.elim (fun x1_ => Or.inr (Or.inl (x1_))) (fun y1_ => y1_.elim (fun x2_ => Or.inr (Or.inr (Or.inl (x2_)))) (fun y2_ => Or.inr (Or.inr (Or.inr (y2_))))))))]) (by omega)
            · skip
              refine dk_if_eq (tgt := 217) (pc' := 125) hE dX11_ask_122 (by decide) rfl (fun hc197 => ?_) (fun hc197 => absurd hc197 (by decide))
              obtain ⟨v198, hv198⟩ : ∃ z : Int, z = i + 1 := ⟨_, rfl⟩
              refine dk_iinc (pc' := 220) (ls' := [(4, 141), (0, b), (0, p), (0, d), (0, k), (0, m), (0, v198), (0, v14)]) hE dX11_ask_217 rfl hv198.symm (by omega) rfl (by decide) rfl ?_
              refine dk_goto (tgt := 47) hE dX11_ask_220 (by decide) ?_
              refine dk_drop (ls' := [(4, 141), (0, b), (0, p), (0, d), (0, k), (0, m), (0, v198), (9, 0)]) [true, true, true, true, true, true, true, false] rfl ?_
              exact ih47 m v198 σ47c (by omega) (fun k_ j_ h_ => by rw [hF47 k_ j_ (fun w_ => h_ (w_.elim (fun x0_ => Or.inl (x0_)) (fun y0_ => y0_.elim (fun x1_ => Or.inr (Or.inl (x1_))) (fun y1_ => y1_.elim (fun x2_ => Or.inr (Or.inr (Or.inl (x2_)))) (fun y2_ => Or.inr (Or.inr (Or.inr (y2_))))))))]) (by omega)
          · skip
            refine dk_iload (pc' := 93) hE dX11_ask_91 rfl rfl ?_
            refine dk_if_lt (tgt := 112) (pc' := 96) hE dX11_ask_93 (by decide) rfl (fun hc199 => ?_) (fun hc199 => ?_)
            · skip
              refine dk_aload_n (pc' := 113) hE dX11_ask_112 rfl rfl rfl ?_
              refine dk_iload (pc' := 115) hE dX11_ask_113 rfl rfl ?_
              refine dk_iconst (pc' := 116) hE dX11_ask_115 (by decide) rfl ?_
              refine dk_iload_n (pc' := 117) hE dX11_ask_116 rfl rfl rfl ?_
              refine dk_iload (pc' := 119) hE dX11_ask_117 rfl rfl ?_
              refine dk_cV (pc' := 122) (as := [(0, i), (0, 1), (0, b), (0, k)]) hE lk_X11_430 (ct_X11_isFact l G hGd i 1 b k) dX11_ask_119 rfl is_141 rfl (by decide) (Nat.le_of_ble_eq_true rfl) ⟨rfl, (by omega)⟩ rfl (fun r201 σ200 hr201 hor201 => ?_)
              have hz202 : σ47c 170 i = σ 170 i := by rw [hF47 170 i (by omega), eσ7, dk_up_n (show ¬ (170 = 141 ∧ i = 60) by omega), eσ6, dk_up_n (show ¬ (170 = 141 ∧ i = 59) by omega), eσ5, dk_up_n (show ¬ (170 = 141 ∧ i = 58) by omega), eσ4, dk_up_n (show ¬ (170 = 141 ∧ i = 57) by omega), eσ3, dk_up_n (show ¬ (170 = 141 ∧ i = 61) by omega), eσ2, dk_up_n (show ¬ (170 = 141 ∧ i = 56) by omega), eσ1, dk_up_n (show ¬ (170 = 141 ∧ i = 55) by omega)]
              obtain ⟨v203, rfl, hfσ200, hpr201⟩ := hr201
              have hsσ200 : σ47c = σ200 := (funext (fun k => funext (fun j => hfσ200 k j not_false))).symm
              subst hsσ200
              rcases hpr201 with ⟨rfl, hpr201⟩ | rfl
              · skip
                refine dk_if_eq (tgt := 217) (pc' := 125) hE dX11_ask_122 (by decide) rfl (fun hc204 => absurd hc204 (by decide)) (fun hc204 => ?_)
                refine dk_iload (pc' := 127) hE dX11_ask_125 rfl rfl ?_
                refine dk_iconst (pc' := 128) hE dX11_ask_127 (by decide) rfl ?_
                refine dk_icmp_ge (tgt := 134) (pc' := 131) hE dX11_ask_128 (by decide) rfl (fun hc205 => ?_) (fun hc205 => ?_)
                · skip
                  refine dk_aload_n (pc' := 135) hE dX11_ask_134 rfl rfl rfl ?_
                  refine dk_iload (pc' := 137) hE dX11_ask_135 rfl rfl ?_
                  refine dk_aload_n (pc' := 138) hE dX11_ask_137 rfl rfl rfl ?_
                  refine gf_11_60 (pc' := 141) hE fl_X11_452 dX11_ask_138 is_141 rfl (fun v206 hv206 htv206 hbv206 => ?_)
                  refine dk_icmp_ge (tgt := 149) (pc' := 144) hE dX11_ask_141 (by decide) rfl (fun hc207 => ?_) (fun hc207 => ?_)
                  · skip
                    refine dk_aload_n (pc' := 150) hE dX11_ask_149 rfl rfl rfl ?_
                    refine gf_11_60 (pc' := 153) hE fl_X11_452 dX11_ask_150 is_141 rfl (fun v208 hv208 htv208 hbv208 => ?_)
                    have hq208 : v206 = v208 := (show v208 = v206 by rw [hv208, hv206]).symm
                    subst hq208
                    clear htv208 hbv208
                    refine pf_11_60 (pc' := 156) hE fl_X11_452 dX11_ask_153 is_141 trivial rfl (fun σ209 eσ209 => ?_)
                    refine dk_aload_n (pc' := 157) hE dX11_ask_156 rfl rfl rfl ?_
                    refine gf_11_48 (pc' := 160) (w := 172) hE fl_X11_107 dX11_ask_157 is_141 rfl rfl ?_
                    refine dk_iload (pc' := 162) hE dX11_ask_160 rfl rfl ?_
                    refine ga_100 (pc' := 163) hE dX11_ask_162 is_172 (by omega) rfl (fun v210 hv210 htv210 hbv210 => ?_)
                    have hq210 : v109 = v210 := (show v210 = v109 by rw [hv210, eσ209, dk_up_n (show ¬ (172 = 141 ∧ i = 60) by omega), hv109]).symm
                    subst hq210
                    clear htv210 hbv210
                    refine dk_iload_n (pc' := 164) hE dX11_ask_163 rfl rfl rfl ?_
                    refine dk_icmp_ne (tgt := 189) (pc' := 167) hE dX11_ask_164 (by decide) rfl (fun hc211 => ?_) (fun hc211 => ?_)
                    · skip
                      refine dk_iload (pc' := 191) hE dX11_ask_189 rfl rfl ?_
                      refine dk_bipush (pc' := 193) hE dX11_ask_191 (by decide) rfl ?_
                      refine dk_icmp_gt (tgt := 217) (pc' := 196) hE dX11_ask_193 (by decide) rfl (fun hc212 => ?_) (fun hc212 => ?_)
                      · skip
                        obtain ⟨v213, hv213⟩ : ∃ z : Int, z = i + 1 := ⟨_, rfl⟩
                        refine dk_iinc (pc' := 220) (ls' := [(4, 141), (0, b), (0, p), (0, d), (0, k), (0, m), (0, v213), (0, v14)]) hE dX11_ask_217 rfl hv213.symm (by omega) rfl (by decide) rfl ?_
                        refine dk_goto (tgt := 47) hE dX11_ask_220 (by decide) ?_
                        refine dk_drop (ls' := [(4, 141), (0, b), (0, p), (0, d), (0, k), (0, m), (0, v213), (9, 0)]) [true, true, true, true, true, true, true, false] rfl ?_
                        exact ih47 m v213 σ209 (by omega) (fun k_ j_ h_ => by rw [eσ209, dk_up_n (show ¬ (k_ = 141 ∧ j_ = 60) from fun q_ => h_ (Or.inr (Or.inr (Or.inr (q_))))), hF47 k_ j_ (fun w_ => h_ (w_.elim (fun x0_ => Or.inl (x0_)) (fun y0_ => y0_.elim (fun x1_ => Or.inr (Or.inl (x1_))) (fun y1_ => y1_.elim (fun x2_ => Or.inr (Or.inr (Or.inl (x2_)))) (fun y2_ => Or.inr (Or.inr (Or.inr (y2_))))))))]) (by omega)
                      · skip
                        refine dk_aload_n (pc' := 197) hE dX11_ask_196 rfl rfl rfl ?_
                        refine dk_dup (pc' := 198) hE dX11_ask_197 (show (4 : Nat) ≠ 3 by decide) rfl ?_
                        refine gf_11_59 (pc' := 201) hE fl_X11_449 dX11_ask_198 is_141 rfl (fun v214 hv214 htv214 hbv214 => ?_)
                        refine dk_aload_n (pc' := 202) hE dX11_ask_201 rfl rfl rfl ?_
                        refine dk_aload_n (pc' := 203) hE dX11_ask_202 rfl rfl rfl ?_
                        refine gf_11_48 (pc' := 206) (w := 172) hE fl_X11_107 dX11_ask_203 is_141 rfl rfl ?_
                        refine dk_iload (pc' := 208) hE dX11_ask_206 rfl rfl ?_
                        refine ga_100 (pc' := 209) hE dX11_ask_208 is_172 (by omega) rfl (fun v215 hv215 htv215 hbv215 => ?_)
                        have hq215 : v109 = v215 := (show v215 = v109 by rw [hv215, hv210]).symm
                        subst hq215
                        clear htv215 hbv215
                        have gv109 := hG.1 i (by omega) (by omega)
                        refine dk_iconst (pc' := 210) hE dX11_ask_209 (by decide) rfl ?_
                        refine dk_cV (pc' := 213) (as := [(0, v109), (0, 0)]) hE lk_X11_362 (ct_X11_loadOf l G hGd v109 0) dX11_ask_210 rfl is_141 rfl (by decide) (Nat.le_of_ble_eq_true rfl) ⟨rfl, (by omega), (by omega)⟩ rfl (fun r217 σ216 hr217 hor217 => ?_)
                        obtain ⟨v218, rfl, hfσ216, hpr217⟩ := hr217
                        have hsσ216 : σ209 = σ216 := (funext (fun k => funext (fun j => hfσ216 k j not_false))).symm
                        subst hsσ216
                        refine dk_iaddW (pc' := 214) hE dX11_ask_213 rfl (fun v219 hv219 _ => ?_)
                        refine pf_11_59 (pc' := 217) hE fl_X11_449 dX11_ask_214 is_141 trivial rfl (fun σ220 eσ220 => ?_)
                        obtain ⟨v221, hv221⟩ : ∃ z : Int, z = i + 1 := ⟨_, rfl⟩
                        refine dk_iinc (pc' := 220) (ls' := [(4, 141), (0, b), (0, p), (0, d), (0, k), (0, m), (0, v221), (0, v14)]) hE dX11_ask_217 rfl hv221.symm (by omega) rfl (by decide) rfl ?_
                        refine dk_goto (tgt := 47) hE dX11_ask_220 (by decide) ?_
                        refine dk_drop (ls' := [(4, 141), (0, b), (0, p), (0, d), (0, k), (0, m), (0, v221), (9, 0)]) [true, true, true, true, true, true, true, false] rfl ?_
                        exact ih47 m v221 σ220 (by omega) (fun k_ j_ h_ => by rw [eσ220, dk_up_n (show ¬ (k_ = 141 ∧ j_ = 59) from fun q_ => h_ (Or.inr (Or.inr (Or.inl (q_))))), eσ209, dk_up_n (show ¬ (k_ = 141 ∧ j_ = 60) from fun q_ => h_ (Or.inr (Or.inr (Or.inr (q_))))), hF47 k_ j_ (fun w_ => h_ (w_.elim (fun x0_ => Or.inl (x0_)) (fun y0_ => y0_.elim (fun x1_ => Or.inr (Or.inl (x1_))) (fun y1_ => y1_.elim (fun x2_ => Or.inr (Or.inr (Or.inl (x2_)))) (fun y2_ => Or.inr (Or.inr (Or.inr (y2_))))))))]) (by omega)
                    · skip
                      refine dk_aload_n (pc' := 168) hE dX11_ask_167 rfl rfl rfl ?_
                      refine dk_iload (pc' := 170) hE dX11_ask_168 rfl rfl ?_
                      refine dk_aload_n (pc' := 171) hE dX11_ask_170 rfl rfl rfl ?_
                      refine gf_11_58 (pc' := 174) hE fl_X11_446 dX11_ask_171 is_141 rfl (fun v222 hv222 htv222 hbv222 => ?_)
                      refine dk_icmp_ge (tgt := 182) (pc' := 177) hE dX11_ask_174 (by decide) rfl (fun hc223 => ?_) (fun hc223 => ?_)
                      · skip
                        refine dk_aload_n (pc' := 183) hE dX11_ask_182 rfl rfl rfl ?_
                        refine gf_11_58 (pc' := 186) hE fl_X11_446 dX11_ask_183 is_141 rfl (fun v224 hv224 htv224 hbv224 => ?_)
                        have hq224 : v222 = v224 := (show v224 = v222 by rw [hv224, hv222]).symm
                        subst hq224
                        clear htv224 hbv224
                        refine pf_11_58 (pc' := 189) hE fl_X11_446 dX11_ask_186 is_141 trivial rfl (fun σ225 eσ225 => ?_)
                        refine dk_iload (pc' := 191) hE dX11_ask_189 rfl rfl ?_
                        refine dk_bipush (pc' := 193) hE dX11_ask_191 (by decide) rfl ?_
                        refine dk_icmp_gt (tgt := 217) (pc' := 196) hE dX11_ask_193 (by decide) rfl (fun hc226 => ?_) (fun hc226 => ?_)
                        · skip
                          obtain ⟨v227, hv227⟩ : ∃ z : Int, z = i + 1 := ⟨_, rfl⟩
                          refine dk_iinc (pc' := 220) (ls' := [(4, 141), (0, b), (0, p), (0, d), (0, k), (0, m), (0, v227), (0, v14)]) hE dX11_ask_217 rfl hv227.symm (by omega) rfl (by decide) rfl ?_
                          refine dk_goto (tgt := 47) hE dX11_ask_220 (by decide) ?_
                          refine dk_drop (ls' := [(4, 141), (0, b), (0, p), (0, d), (0, k), (0, m), (0, v227), (9, 0)]) [true, true, true, true, true, true, true, false] rfl ?_
                          exact ih47 m v227 σ225 (by omega) (fun k_ j_ h_ => by rw [eσ225, dk_up_n (show ¬ (k_ = 141 ∧ j_ = 58) from fun q_ => h_ (Or.inr (Or.inl (q_)))), eσ209, dk_up_n (show ¬ (k_ = 141 ∧ j_ = 60) from fun q_ => h_ (Or.inr (Or.inr (Or.inr (q_))))), hF47 k_ j_ (fun w_ => h_ (w_.elim (fun x0_ => Or.inl (x0_)) (fun y0_ => y0_.elim (fun x1_ => Or.inr (Or.inl (x1_))) (fun y1_ => y1_.elim (fun x2_ => Or.inr (Or.inr (Or.inl (x2_)))) (fun y2_ => Or.inr (Or.inr (Or.inr (y2_))))))))]) (by omega)
                        · skip
                          refine dk_aload_n (pc' := 197) hE dX11_ask_196 rfl rfl rfl ?_
                          refine dk_dup (pc' := 198) hE dX11_ask_197 (show (4 : Nat) ≠ 3 by decide) rfl ?_
                          refine gf_11_59 (pc' := 201) hE fl_X11_449 dX11_ask_198 is_141 rfl (fun v228 hv228 htv228 hbv228 => ?_)
                          refine dk_aload_n (pc' := 202) hE dX11_ask_201 rfl rfl rfl ?_
                          refine dk_aload_n (pc' := 203) hE dX11_ask_202 rfl rfl rfl ?_
                          refine gf_11_48 (pc' := 206) (w := 172) hE fl_X11_107 dX11_ask_203 is_141 rfl rfl ?_
                          refine dk_iload (pc' := 208) hE dX11_ask_206 rfl rfl ?_
                          refine ga_100 (pc' := 209) hE dX11_ask_208 is_172 (by omega) rfl (fun v229 hv229 htv229 hbv229 => ?_)
                          have hq229 : v109 = v229 := (show v229 = v109 by rw [hv229, eσ225, dk_up_n (show ¬ (172 = 141 ∧ i = 58) by omega), hv210]).symm
                          subst hq229
                          clear htv229 hbv229
                          have gv109 := hG.1 i (by omega) (by omega)
                          refine dk_iconst (pc' := 210) hE dX11_ask_209 (by decide) rfl ?_
                          refine dk_cV (pc' := 213) (as := [(0, v109), (0, 0)]) hE lk_X11_362 (ct_X11_loadOf l G hGd v109 0) dX11_ask_210 rfl is_141 rfl (by decide) (Nat.le_of_ble_eq_true rfl) ⟨rfl, (by omega), (by omega)⟩ rfl (fun r231 σ230 hr231 hor231 => ?_)
                          obtain ⟨v232, rfl, hfσ230, hpr231⟩ := hr231
                          have hsσ230 : σ225 = σ230 := (funext (fun k => funext (fun j => hfσ230 k j not_false))).symm
                          subst hsσ230
                          refine dk_iaddW (pc' := 214) hE dX11_ask_213 rfl (fun v233 hv233 _ => ?_)
                          refine pf_11_59 (pc' := 217) hE fl_X11_449 dX11_ask_214 is_141 trivial rfl (fun σ234 eσ234 => ?_)
                          obtain ⟨v235, hv235⟩ : ∃ z : Int, z = i + 1 := ⟨_, rfl⟩
                          refine dk_iinc (pc' := 220) (ls' := [(4, 141), (0, b), (0, p), (0, d), (0, k), (0, m), (0, v235), (0, v14)]) hE dX11_ask_217 rfl hv235.symm (by omega) rfl (by decide) rfl ?_
                          refine dk_goto (tgt := 47) hE dX11_ask_220 (by decide) ?_
                          refine dk_drop (ls' := [(4, 141), (0, b), (0, p), (0, d), (0, k), (0, m), (0, v235), (9, 0)]) [true, true, true, true, true, true, true, false] rfl ?_
                          exact ih47 m v235 σ234 (by omega) (fun k_ j_ h_ => by rw [eσ234, dk_up_n (show ¬ (k_ = 141 ∧ j_ = 59) from fun q_ => h_ (Or.inr (Or.inr (Or.inl (q_))))), eσ225, dk_up_n (show ¬ (k_ = 141 ∧ j_ = 58) from fun q_ => h_ (Or.inr (Or.inl (q_)))), eσ209, dk_up_n (show ¬ (k_ = 141 ∧ j_ = 60) from fun q_ => h_ (Or.inr (Or.inr (Or.inr (q_))))), hF47 k_ j_ (fun w_ => h_ (w_.elim (fun x0_ => Or.inl (x0_)) (fun y0_ => y0_.elim (fun x1_ => Or.inr (Or.inl (x1_))) (fun y1_ => y1_.elim (fun x2_ => Or.inr (Or.inr (Or.inl (x2_)))) (fun y2_ => Or.inr (Or.inr (Or.inr (y2_))))))))]) (by omega)
                      · skip
                        refine dk_iload (pc' := 179) hE dX11_ask_177 rfl rfl ?_
                        refine dk_goto (tgt := 186) hE dX11_ask_179 (by decide) ?_
                        refine pf_11_58 (pc' := 189) hE fl_X11_446 dX11_ask_186 is_141 trivial rfl (fun σ236 eσ236 => ?_)
                        refine dk_iload (pc' := 191) hE dX11_ask_189 rfl rfl ?_
                        refine dk_bipush (pc' := 193) hE dX11_ask_191 (by decide) rfl ?_
                        refine dk_icmp_gt (tgt := 217) (pc' := 196) hE dX11_ask_193 (by decide) rfl (fun hc237 => ?_) (fun hc237 => ?_)
                        · skip
                          obtain ⟨v238, hv238⟩ : ∃ z : Int, z = i + 1 := ⟨_, rfl⟩
                          refine dk_iinc (pc' := 220) (ls' := [(4, 141), (0, b), (0, p), (0, d), (0, k), (0, m), (0, v238), (0, v14)]) hE dX11_ask_217 rfl hv238.symm (by omega) rfl (by decide) rfl ?_
                          refine dk_goto (tgt := 47) hE dX11_ask_220 (by decide) ?_
                          refine dk_drop (ls' := [(4, 141), (0, b), (0, p), (0, d), (0, k), (0, m), (0, v238), (9, 0)]) [true, true, true, true, true, true, true, false] rfl ?_
                          exact ih47 m v238 σ236 (by omega) (fun k_ j_ h_ => by rw [eσ236, dk_up_n (show ¬ (k_ = 141 ∧ j_ = 58) from fun q_ => h_ (Or.inr (Or.inl (q_)))), eσ209, dk_up_n (show ¬ (k_ = 141 ∧ j_ = 60) from fun q_ => h_ (Or.inr (Or.inr (Or.inr (q_))))), hF47 k_ j_ (fun w_ => h_ (w_.elim (fun x0_ => Or.inl (x0_)) (fun y0_ => y0_.elim (fun x1_ => Or.inr (Or.inl (x1_))) (fun y1_ => y1_.elim (fun x2_ => Or.inr (Or.inr (Or.inl (x2_)))) (fun y2_ => Or.inr (Or.inr (Or.inr (y2_))))))))]) (by omega)
                        · skip
                          refine dk_aload_n (pc' := 197) hE dX11_ask_196 rfl rfl rfl ?_
                          refine dk_dup (pc' := 198) hE dX11_ask_197 (show (4 : Nat) ≠ 3 by decide) rfl ?_
                          refine gf_11_59 (pc' := 201) hE fl_X11_449 dX11_ask_198 is_141 rfl (fun v239 hv239 htv239 hbv239 => ?_)
                          refine dk_aload_n (pc' := 202) hE dX11_ask_201 rfl rfl rfl ?_
                          refine dk_aload_n (pc' := 203) hE dX11_ask_202 rfl rfl rfl ?_
                          refine gf_11_48 (pc' := 206) (w := 172) hE fl_X11_107 dX11_ask_203 is_141 rfl rfl ?_
                          refine dk_iload (pc' := 208) hE dX11_ask_206 rfl rfl ?_
                          refine ga_100 (pc' := 209) hE dX11_ask_208 is_172 (by omega) rfl (fun v240 hv240 htv240 hbv240 => ?_)
                          have hq240 : v109 = v240 := (show v240 = v109 by rw [hv240, eσ236, dk_up_n (show ¬ (172 = 141 ∧ i = 58) by omega), hv210]).symm
                          subst hq240
                          clear htv240 hbv240
                          have gv109 := hG.1 i (by omega) (by omega)
                          refine dk_iconst (pc' := 210) hE dX11_ask_209 (by decide) rfl ?_
                          refine dk_cV (pc' := 213) (as := [(0, v109), (0, 0)]) hE lk_X11_362 (ct_X11_loadOf l G hGd v109 0) dX11_ask_210 rfl is_141 rfl (by decide) (Nat.le_of_ble_eq_true rfl) ⟨rfl, (by omega), (by omega)⟩ rfl (fun r242 σ241 hr242 hor242 => ?_)
                          obtain ⟨v243, rfl, hfσ241, hpr242⟩ := hr242
                          have hsσ241 : σ236 = σ241 := (funext (fun k => funext (fun j => hfσ241 k j not_false))).symm
                          subst hsσ241
                          refine dk_iaddW (pc' := 214) hE dX11_ask_213 rfl (fun v244 hv244 _ => ?_)
                          refine pf_11_59 (pc' := 217) hE fl_X11_449 dX11_ask_214 is_141 trivial rfl (fun σ245 eσ245 => ?_)
                          obtain ⟨v246, hv246⟩ : ∃ z : Int, z = i + 1 := ⟨_, rfl⟩
                          refine dk_iinc (pc' := 220) (ls' := [(4, 141), (0, b), (0, p), (0, d), (0, k), (0, m), (0, v246), (0, v14)]) hE dX11_ask_217 rfl hv246.symm (by omega) rfl (by decide) rfl ?_
                          refine dk_goto (tgt := 47) hE dX11_ask_220 (by decide) ?_
                          refine dk_drop (ls' := [(4, 141), (0, b), (0, p), (0, d), (0, k), (0, m), (0, v246), (9, 0)]) [true, true, true, true, true, true, true, false] rfl ?_
                          exact ih47 m v246 σ245 (by omega) (fun k_ j_ h_ => by rw [eσ245, dk_up_n (show ¬ (k_ = 141 ∧ j_ = 59) from fun q_ => h_ (Or.inr (Or.inr (Or.inl (q_))))), eσ236, dk_up_n (show ¬ (k_ = 141 ∧ j_ = 58) from fun q_ => h_ (Or.inr (Or.inl (q_)))), eσ209, dk_up_n (show ¬ (k_ = 141 ∧ j_ = 60) from fun q_ => h_ (Or.inr (Or.inr (Or.inr (q_))))), hF47 k_ j_ (fun w_ => h_ (w_.elim (fun x0_ => Or.inl (x0_)) (fun y0_ => y0_.elim (fun x1_ => Or.inr (Or.inl (x1_))) (fun y1_ => y1_.elim (fun x2_ => Or.inr (Or.inr (Or.inl (x2_)))) (fun y2_ => Or.inr (Or.inr (Or.inr (y2_))))))))]) (by omega)
                  · skip
                    refine dk_iload (pc' := 146) hE dX11_ask_144 rfl rfl ?_
                    refine dk_goto (tgt := 153) hE dX11_ask_146 (by decide) ?_
                    refine pf_11_60 (pc' := 156) hE fl_X11_452 dX11_ask_153 is_141 trivial rfl (fun σ247 eσ247 => ?_)
                    refine dk_aload_n (pc' := 157) hE dX11_ask_156 rfl rfl rfl ?_
                    refine gf_11_48 (pc' := 160) (w := 172) hE fl_X11_107 dX11_ask_157 is_141 rfl rfl ?_
                    refine dk_iload (pc' := 162) hE dX11_ask_160 rfl rfl ?_
                    refine ga_100 (pc' := 163) hE dX11_ask_162 is_172 (by omega) rfl (fun v248 hv248 htv248 hbv248 => ?_)
                    have hq248 : v109 = v248 := (show v248 = v109 by rw [hv248, eσ247, dk_up_n (show ¬ (172 = 141 ∧ i = 60) by omega), hv109]).symm
                    subst hq248
                    clear htv248 hbv248
                    refine dk_iload_n (pc' := 164) hE dX11_ask_163 rfl rfl rfl ?_
                    refine dk_icmp_ne (tgt := 189) (pc' := 167) hE dX11_ask_164 (by decide) rfl (fun hc249 => ?_) (fun hc249 => ?_)
                    · skip
                      refine dk_iload (pc' := 191) hE dX11_ask_189 rfl rfl ?_
                      refine dk_bipush (pc' := 193) hE dX11_ask_191 (by decide) rfl ?_
                      refine dk_icmp_gt (tgt := 217) (pc' := 196) hE dX11_ask_193 (by decide) rfl (fun hc250 => ?_) (fun hc250 => ?_)
                      · skip
                        obtain ⟨v251, hv251⟩ : ∃ z : Int, z = i + 1 := ⟨_, rfl⟩
                        refine dk_iinc (pc' := 220) (ls' := [(4, 141), (0, b), (0, p), (0, d), (0, k), (0, m), (0, v251), (0, v14)]) hE dX11_ask_217 rfl hv251.symm (by omega) rfl (by decide) rfl ?_
                        refine dk_goto (tgt := 47) hE dX11_ask_220 (by decide) ?_
                        refine dk_drop (ls' := [(4, 141), (0, b), (0, p), (0, d), (0, k), (0, m), (0, v251), (9, 0)]) [true, true, true, true, true, true, true, false] rfl ?_
                        exact ih47 m v251 σ247 (by omega) (fun k_ j_ h_ => by rw [eσ247, dk_up_n (show ¬ (k_ = 141 ∧ j_ = 60) from fun q_ => h_ (Or.inr (Or.inr (Or.inr (q_))))), hF47 k_ j_ (fun w_ => h_ (w_.elim (fun x0_ => Or.inl (x0_)) (fun y0_ => y0_.elim (fun x1_ => Or.inr (Or.inl (x1_))) (fun y1_ => y1_.elim (fun x2_ => Or.inr (Or.inr (Or.inl (x2_)))) (fun y2_ => Or.inr (Or.inr (Or.inr (y2_))))))))]) (by omega)
                      · skip
                        refine dk_aload_n (pc' := 197) hE dX11_ask_196 rfl rfl rfl ?_
                        refine dk_dup (pc' := 198) hE dX11_ask_197 (show (4 : Nat) ≠ 3 by decide) rfl ?_
                        refine gf_11_59 (pc' := 201) hE fl_X11_449 dX11_ask_198 is_141 rfl (fun v252 hv252 htv252 hbv252 => ?_)
                        refine dk_aload_n (pc' := 202) hE dX11_ask_201 rfl rfl rfl ?_
                        refine dk_aload_n (pc' := 203) hE dX11_ask_202 rfl rfl rfl ?_
                        refine gf_11_48 (pc' := 206) (w := 172) hE fl_X11_107 dX11_ask_203 is_141 rfl rfl ?_
                        refine dk_iload (pc' := 208) hE dX11_ask_206 rfl rfl ?_
                        refine ga_100 (pc' := 209) hE dX11_ask_208 is_172 (by omega) rfl (fun v253 hv253 htv253 hbv253 => ?_)
                        have hq253 : v109 = v253 := (show v253 = v109 by rw [hv253, hv248]).symm
                        subst hq253
                        clear htv253 hbv253
                        have gv109 := hG.1 i (by omega) (by omega)
                        refine dk_iconst (pc' := 210) hE dX11_ask_209 (by decide) rfl ?_
                        refine dk_cV (pc' := 213) (as := [(0, v109), (0, 0)]) hE lk_X11_362 (ct_X11_loadOf l G hGd v109 0) dX11_ask_210 rfl is_141 rfl (by decide) (Nat.le_of_ble_eq_true rfl) ⟨rfl, (by omega), (by omega)⟩ rfl (fun r255 σ254 hr255 hor255 => ?_)
                        obtain ⟨v256, rfl, hfσ254, hpr255⟩ := hr255
                        have hsσ254 : σ247 = σ254 := (funext (fun k => funext (fun j => hfσ254 k j not_false))).symm
                        subst hsσ254
                        refine dk_iaddW (pc' := 214) hE dX11_ask_213 rfl (fun v257 hv257 _ => ?_)
                        refine pf_11_59 (pc' := 217) hE fl_X11_449 dX11_ask_214 is_141 trivial rfl (fun σ258 eσ258 => ?_)
                        obtain ⟨v259, hv259⟩ : ∃ z : Int, z = i + 1 := ⟨_, rfl⟩
                        refine dk_iinc (pc' := 220) (ls' := [(4, 141), (0, b), (0, p), (0, d), (0, k), (0, m), (0, v259), (0, v14)]) hE dX11_ask_217 rfl hv259.symm (by omega) rfl (by decide) rfl ?_
                        refine dk_goto (tgt := 47) hE dX11_ask_220 (by decide) ?_
                        refine dk_drop (ls' := [(4, 141), (0, b), (0, p), (0, d), (0, k), (0, m), (0, v259), (9, 0)]) [true, true, true, true, true, true, true, false] rfl ?_
                        exact ih47 m v259 σ258 (by omega) (fun k_ j_ h_ => by rw [eσ258, dk_up_n (show ¬ (k_ = 141 ∧ j_ = 59) from fun q_ => h_ (Or.inr (Or.inr (Or.inl (q_))))), eσ247, dk_up_n (show ¬ (k_ = 141 ∧ j_ = 60) from fun q_ => h_ (Or.inr (Or.inr (Or.inr (q_))))), hF47 k_ j_ (fun w_ => h_ (w_.elim (fun x0_ => Or.inl (x0_)) (fun y0_ => y0_.elim (fun x1_ => Or.inr (Or.inl (x1_))) (fun y1_ => y1_.elim (fun x2_ => Or.inr (Or.inr (Or.inl (x2_)))) (fun y2_ => Or.inr (Or.inr (Or.inr (y2_))))))))]) (by omega)
                    · skip
                      refine dk_aload_n (pc' := 168) hE dX11_ask_167 rfl rfl rfl ?_
                      refine dk_iload (pc' := 170) hE dX11_ask_168 rfl rfl ?_
                      refine dk_aload_n (pc' := 171) hE dX11_ask_170 rfl rfl rfl ?_
                      refine gf_11_58 (pc' := 174) hE fl_X11_446 dX11_ask_171 is_141 rfl (fun v260 hv260 htv260 hbv260 => ?_)
                      refine dk_icmp_ge (tgt := 182) (pc' := 177) hE dX11_ask_174 (by decide) rfl (fun hc261 => ?_) (fun hc261 => ?_)
                      · skip
                        refine dk_aload_n (pc' := 183) hE dX11_ask_182 rfl rfl rfl ?_
                        refine gf_11_58 (pc' := 186) hE fl_X11_446 dX11_ask_183 is_141 rfl (fun v262 hv262 htv262 hbv262 => ?_)
                        have hq262 : v260 = v262 := (show v262 = v260 by rw [hv262, hv260]).symm
                        subst hq262
                        clear htv262 hbv262
                        refine pf_11_58 (pc' := 189) hE fl_X11_446 dX11_ask_186 is_141 trivial rfl (fun σ263 eσ263 => ?_)
                        refine dk_iload (pc' := 191) hE dX11_ask_189 rfl rfl ?_
                        refine dk_bipush (pc' := 193) hE dX11_ask_191 (by decide) rfl ?_
                        refine dk_icmp_gt (tgt := 217) (pc' := 196) hE dX11_ask_193 (by decide) rfl (fun hc264 => ?_) (fun hc264 => ?_)
                        · skip
                          obtain ⟨v265, hv265⟩ : ∃ z : Int, z = i + 1 := ⟨_, rfl⟩
                          refine dk_iinc (pc' := 220) (ls' := [(4, 141), (0, b), (0, p), (0, d), (0, k), (0, m), (0, v265), (0, v14)]) hE dX11_ask_217 rfl hv265.symm (by omega) rfl (by decide) rfl ?_
                          refine dk_goto (tgt := 47) hE dX11_ask_220 (by decide) ?_
                          refine dk_drop (ls' := [(4, 141), (0, b), (0, p), (0, d), (0, k), (0, m), (0, v265), (9, 0)]) [true, true, true, true, true, true, true, false] rfl ?_
                          exact ih47 m v265 σ263 (by omega) (fun k_ j_ h_ => by rw [eσ263, dk_up_n (show ¬ (k_ = 141 ∧ j_ = 58) from fun q_ => h_ (Or.inr (Or.inl (q_)))), eσ247, dk_up_n (show ¬ (k_ = 141 ∧ j_ = 60) from fun q_ => h_ (Or.inr (Or.inr (Or.inr (q_))))), hF47 k_ j_ (fun w_ => h_ (w_.elim (fun x0_ => Or.inl (x0_)) (fun y0_ => y0_.elim (fun x1_ => Or.inr (Or.inl (x1_))) (fun y1_ => y1_.elim (fun x2_ => Or.inr (Or.inr (Or.inl (x2_)))) (fun y2_ => Or.inr (Or.inr (Or.inr (y2_))))))))]) (by omega)
                        · skip
                          refine dk_aload_n (pc' := 197) hE dX11_ask_196 rfl rfl rfl ?_
                          refine dk_dup (pc' := 198) hE dX11_ask_197 (show (4 : Nat) ≠ 3 by decide) rfl ?_
                          refine gf_11_59 (pc' := 201) hE fl_X11_449 dX11_ask_198 is_141 rfl (fun v266 hv266 htv266 hbv266 => ?_)
                          refine dk_aload_n (pc' := 202) hE dX11_ask_201 rfl rfl rfl ?_
                          refine dk_aload_n (pc' := 203) hE dX11_ask_202 rfl rfl rfl ?_
                          refine gf_11_48 (pc' := 206) (w := 172) hE fl_X11_107 dX11_ask_203 is_141 rfl rfl ?_
                          refine dk_iload (pc' := 208) hE dX11_ask_206 rfl rfl ?_
                          refine ga_100 (pc' := 209) hE dX11_ask_208 is_172 (by omega) rfl (fun v267 hv267 htv267 hbv267 => ?_)
                          have hq267 : v109 = v267 := (show v267 = v109 by rw [hv267, eσ263, dk_up_n (show ¬ (172 = 141 ∧ i = 58) by omega), hv248]).symm
                          subst hq267
                          clear htv267 hbv267
                          have gv109 := hG.1 i (by omega) (by omega)
                          refine dk_iconst (pc' := 210) hE dX11_ask_209 (by decide) rfl ?_
                          refine dk_cV (pc' := 213) (as := [(0, v109), (0, 0)]) hE lk_X11_362 (ct_X11_loadOf l G hGd v109 0) dX11_ask_210 rfl is_141 rfl (by decide) (Nat.le_of_ble_eq_true rfl) ⟨rfl, (by omega), (by omega)⟩ rfl (fun r269 σ268 hr269 hor269 => ?_)
                          obtain ⟨v270, rfl, hfσ268, hpr269⟩ := hr269
                          have hsσ268 : σ263 = σ268 := (funext (fun k => funext (fun j => hfσ268 k j not_false))).symm
                          subst hsσ268
                          refine dk_iaddW (pc' := 214) hE dX11_ask_213 rfl (fun v271 hv271 _ => ?_)
                          refine pf_11_59 (pc' := 217) hE fl_X11_449 dX11_ask_214 is_141 trivial rfl (fun σ272 eσ272 => ?_)
                          obtain ⟨v273, hv273⟩ : ∃ z : Int, z = i + 1 := ⟨_, rfl⟩
                          refine dk_iinc (pc' := 220) (ls' := [(4, 141), (0, b), (0, p), (0, d), (0, k), (0, m), (0, v273), (0, v14)]) hE dX11_ask_217 rfl hv273.symm (by omega) rfl (by decide) rfl ?_
                          refine dk_goto (tgt := 47) hE dX11_ask_220 (by decide) ?_
                          refine dk_drop (ls' := [(4, 141), (0, b), (0, p), (0, d), (0, k), (0, m), (0, v273), (9, 0)]) [true, true, true, true, true, true, true, false] rfl ?_
                          exact ih47 m v273 σ272 (by omega) (fun k_ j_ h_ => by rw [eσ272, dk_up_n (show ¬ (k_ = 141 ∧ j_ = 59) from fun q_ => h_ (Or.inr (Or.inr (Or.inl (q_))))), eσ263, dk_up_n (show ¬ (k_ = 141 ∧ j_ = 58) from fun q_ => h_ (Or.inr (Or.inl (q_)))), eσ247, dk_up_n (show ¬ (k_ = 141 ∧ j_ = 60) from fun q_ => h_ (Or.inr (Or.inr (Or.inr (q_))))), hF47 k_ j_ (fun w_ => h_ (w_.elim (fun x0_ => Or.inl (x0_)) (fun y0_ => y0_.elim (fun x1_ => Or.inr (Or.inl (x1_))) (fun y1_ => y1_.elim (fun x2_ => Or.inr (Or.inr (Or.inl (x2_)))) (fun y2_ => Or.inr (Or.inr (Or.inr (y2_))))))))]) (by omega)
                      · skip
                        refine dk_iload (pc' := 179) hE dX11_ask_177 rfl rfl ?_
                        refine dk_goto (tgt := 186) hE dX11_ask_179 (by decide) ?_
                        refine pf_11_58 (pc' := 189) hE fl_X11_446 dX11_ask_186 is_141 trivial rfl (fun σ274 eσ274 => ?_)
                        refine dk_iload (pc' := 191) hE dX11_ask_189 rfl rfl ?_
                        refine dk_bipush (pc' := 193) hE dX11_ask_191 (by decide) rfl ?_
                        refine dk_icmp_gt (tgt := 217) (pc' := 196) hE dX11_ask_193 (by decide) rfl (fun hc275 => ?_) (fun hc275 => ?_)
                        · skip
                          obtain ⟨v276, hv276⟩ : ∃ z : Int, z = i + 1 := ⟨_, rfl⟩
                          refine dk_iinc (pc' := 220) (ls' := [(4, 141), (0, b), (0, p), (0, d), (0, k), (0, m), (0, v276), (0, v14)]) hE dX11_ask_217 rfl hv276.symm (by omega) rfl (by decide) rfl ?_
                          refine dk_goto (tgt := 47) hE dX11_ask_220 (by decide) ?_
                          refine dk_drop (ls' := [(4, 141), (0, b), (0, p), (0, d), (0, k), (0, m), (0, v276), (9, 0)]) [true, true, true, true, true, true, true, false] rfl ?_
                          exact ih47 m v276 σ274 (by omega) (fun k_ j_ h_ => by rw [eσ274, dk_up_n (show ¬ (k_ = 141 ∧ j_ = 58) from fun q_ => h_ (Or.inr (Or.inl (q_)))), eσ247, dk_up_n (show ¬ (k_ = 141 ∧ j_ = 60) from fun q_ => h_ (Or.inr (Or.inr (Or.inr (q_))))), hF47 k_ j_ (fun w_ => h_ (w_.elim (fun x0_ => Or.inl (x0_)) (fun y0_ => y0_.elim (fun x1_ => Or.inr (Or.inl (x1_))) (fun y1_ => y1_.elim (fun x2_ => Or.inr (Or.inr (Or.inl (x2_)))) (fun y2_ => Or.inr (Or.inr (Or.inr (y2_))))))))]) (by omega)
                        · skip
                          refine dk_aload_n (pc' := 197) hE dX11_ask_196 rfl rfl rfl ?_
                          refine dk_dup (pc' := 198) hE dX11_ask_197 (show (4 : Nat) ≠ 3 by decide) rfl ?_
                          refine gf_11_59 (pc' := 201) hE fl_X11_449 dX11_ask_198 is_141 rfl (fun v277 hv277 htv277 hbv277 => ?_)
                          refine dk_aload_n (pc' := 202) hE dX11_ask_201 rfl rfl rfl ?_
                          refine dk_aload_n (pc' := 203) hE dX11_ask_202 rfl rfl rfl ?_
                          refine gf_11_48 (pc' := 206) (w := 172) hE fl_X11_107 dX11_ask_203 is_141 rfl rfl ?_
                          refine dk_iload (pc' := 208) hE dX11_ask_206 rfl rfl ?_
                          refine ga_100 (pc' := 209) hE dX11_ask_208 is_172 (by omega) rfl (fun v278 hv278 htv278 hbv278 => ?_)
                          have hq278 : v109 = v278 := (show v278 = v109 by rw [hv278, eσ274, dk_up_n (show ¬ (172 = 141 ∧ i = 58) by omega), hv248]).symm
                          subst hq278
                          clear htv278 hbv278
                          have gv109 := hG.1 i (by omega) (by omega)
                          refine dk_iconst (pc' := 210) hE dX11_ask_209 (by decide) rfl ?_
                          refine dk_cV (pc' := 213) (as := [(0, v109), (0, 0)]) hE lk_X11_362 (ct_X11_loadOf l G hGd v109 0) dX11_ask_210 rfl is_141 rfl (by decide) (Nat.le_of_ble_eq_true rfl) ⟨rfl, (by omega), (by omega)⟩ rfl (fun r280 σ279 hr280 hor280 => ?_)
                          obtain ⟨v281, rfl, hfσ279, hpr280⟩ := hr280
                          have hsσ279 : σ274 = σ279 := (funext (fun k => funext (fun j => hfσ279 k j not_false))).symm
                          subst hsσ279
                          refine dk_iaddW (pc' := 214) hE dX11_ask_213 rfl (fun v282 hv282 _ => ?_)
                          refine pf_11_59 (pc' := 217) hE fl_X11_449 dX11_ask_214 is_141 trivial rfl (fun σ283 eσ283 => ?_)
                          obtain ⟨v284, hv284⟩ : ∃ z : Int, z = i + 1 := ⟨_, rfl⟩
                          refine dk_iinc (pc' := 220) (ls' := [(4, 141), (0, b), (0, p), (0, d), (0, k), (0, m), (0, v284), (0, v14)]) hE dX11_ask_217 rfl hv284.symm (by omega) rfl (by decide) rfl ?_
                          refine dk_goto (tgt := 47) hE dX11_ask_220 (by decide) ?_
                          refine dk_drop (ls' := [(4, 141), (0, b), (0, p), (0, d), (0, k), (0, m), (0, v284), (9, 0)]) [true, true, true, true, true, true, true, false] rfl ?_
                          exact ih47 m v284 σ283 (by omega) (fun k_ j_ h_ => by rw [eσ283, dk_up_n (show ¬ (k_ = 141 ∧ j_ = 59) from fun q_ => h_ (Or.inr (Or.inr (Or.inl (q_))))), eσ274, dk_up_n (show ¬ (k_ = 141 ∧ j_ = 58) from fun q_ => h_ (Or.inr (Or.inl (q_)))), eσ247, dk_up_n (show ¬ (k_ = 141 ∧ j_ = 60) from fun q_ => h_ (Or.inr (Or.inr (Or.inr (q_))))), hF47 k_ j_ (fun w_ => h_ (w_.elim (fun x0_ => Or.inl (x0_)) (fun y0_ => y0_.elim (fun x1_ => Or.inr (Or.inl (x1_))) (fun y1_ => y1_.elim (fun x2_ => Or.inr (Or.inr (Or.inl (x2_)))) (fun y2_ => Or.inr (Or.inr (Or.inr (y2_))))))))]) (by omega)
                · skip
                  refine dk_goto (tgt := 217) hE dX11_ask_131 (by decide) ?_
                  obtain ⟨v285, hv285⟩ : ∃ z : Int, z = i + 1 := ⟨_, rfl⟩
                  refine dk_iinc (pc' := 220) (ls' := [(4, 141), (0, b), (0, p), (0, d), (0, k), (0, m), (0, v285), (0, v14)]) hE dX11_ask_217 rfl hv285.symm (by omega) rfl (by decide) rfl ?_
                  refine dk_goto (tgt := 47) hE dX11_ask_220 (by decide) ?_
                  refine dk_drop (ls' := [(4, 141), (0, b), (0, p), (0, d), (0, k), (0, m), (0, v285), (9, 0)]) [true, true, true, true, true, true, true, false] rfl ?_
                  exact ih47 m v285 σ47c (by omega) (fun k_ j_ h_ => by rw [hF47 k_ j_ (fun w_ => h_ (w_.elim (fun x0_ => Or.inl (x0_)) (fun y0_ => y0_.elim (fun x1_ => Or.inr (Or.inl (x1_))) (fun y1_ => y1_.elim (fun x2_ => Or.inr (Or.inr (Or.inl (x2_)))) (fun y2_ => Or.inr (Or.inr (Or.inr (y2_))))))))]) (by omega)
              · skip
                refine dk_if_eq (tgt := 217) (pc' := 125) hE dX11_ask_122 (by decide) rfl (fun hc286 => ?_) (fun hc286 => absurd hc286 (by decide))
                obtain ⟨v287, hv287⟩ : ∃ z : Int, z = i + 1 := ⟨_, rfl⟩
                refine dk_iinc (pc' := 220) (ls' := [(4, 141), (0, b), (0, p), (0, d), (0, k), (0, m), (0, v287), (0, v14)]) hE dX11_ask_217 rfl hv287.symm (by omega) rfl (by decide) rfl ?_
                refine dk_goto (tgt := 47) hE dX11_ask_220 (by decide) ?_
                refine dk_drop (ls' := [(4, 141), (0, b), (0, p), (0, d), (0, k), (0, m), (0, v287), (9, 0)]) [true, true, true, true, true, true, true, false] rfl ?_
                exact ih47 m v287 σ47c (by omega) (fun k_ j_ h_ => by rw [hF47 k_ j_ (fun w_ => h_ (w_.elim (fun x0_ => Or.inl (x0_)) (fun y0_ => y0_.elim (fun x1_ => Or.inr (Or.inl (x1_))) (fun y1_ => y1_.elim (fun x2_ => Or.inr (Or.inr (Or.inl (x2_)))) (fun y2_ => Or.inr (Or.inr (Or.inr (y2_))))))))]) (by omega)
            · skip
              refine dk_iload (pc' := 98) hE dX11_ask_96 rfl rfl ?_
              refine dk_iload (pc' := 100) hE dX11_ask_98 rfl rfl ?_
              refine dk_icmp_le (tgt := 108) (pc' := 103) hE dX11_ask_100 (by decide) rfl (fun hc288 => ?_) (fun hc288 => ?_)
              · skip
                refine dk_iload (pc' := 110) hE dX11_ask_108 rfl rfl ?_
                refine dk_istore (pc' := 112) (ls' := [(4, 141), (0, b), (0, p), (0, d), (0, k), (0, m), (0, i), (0, v14)]) hE dX11_ask_110 rfl (by decide) rfl ?_
                refine dk_aload_n (pc' := 113) hE dX11_ask_112 rfl rfl rfl ?_
                refine dk_iload (pc' := 115) hE dX11_ask_113 rfl rfl ?_
                refine dk_iconst (pc' := 116) hE dX11_ask_115 (by decide) rfl ?_
                refine dk_iload_n (pc' := 117) hE dX11_ask_116 rfl rfl rfl ?_
                refine dk_iload (pc' := 119) hE dX11_ask_117 rfl rfl ?_
                refine dk_cV (pc' := 122) (as := [(0, i), (0, 1), (0, b), (0, k)]) hE lk_X11_430 (ct_X11_isFact l G hGd i 1 b k) dX11_ask_119 rfl is_141 rfl (by decide) (Nat.le_of_ble_eq_true rfl) ⟨rfl, (by omega)⟩ rfl (fun r290 σ289 hr290 hor290 => ?_)
                have hz291 : σ47c 170 i = σ 170 i := by rw [hF47 170 i (by omega), eσ7, dk_up_n (show ¬ (170 = 141 ∧ i = 60) by omega), eσ6, dk_up_n (show ¬ (170 = 141 ∧ i = 59) by omega), eσ5, dk_up_n (show ¬ (170 = 141 ∧ i = 58) by omega), eσ4, dk_up_n (show ¬ (170 = 141 ∧ i = 57) by omega), eσ3, dk_up_n (show ¬ (170 = 141 ∧ i = 61) by omega), eσ2, dk_up_n (show ¬ (170 = 141 ∧ i = 56) by omega), eσ1, dk_up_n (show ¬ (170 = 141 ∧ i = 55) by omega)]
                obtain ⟨v292, rfl, hfσ289, hpr290⟩ := hr290
                have hsσ289 : σ47c = σ289 := (funext (fun k => funext (fun j => hfσ289 k j not_false))).symm
                subst hsσ289
                rcases hpr290 with ⟨rfl, hpr290⟩ | rfl
                · skip
                  refine dk_if_eq (tgt := 217) (pc' := 125) hE dX11_ask_122 (by decide) rfl (fun hc293 => absurd hc293 (by decide)) (fun hc293 => ?_)
                  refine dk_iload (pc' := 127) hE dX11_ask_125 rfl rfl ?_
                  refine dk_iconst (pc' := 128) hE dX11_ask_127 (by decide) rfl ?_
                  refine dk_icmp_ge (tgt := 134) (pc' := 131) hE dX11_ask_128 (by decide) rfl (fun hc294 => ?_) (fun hc294 => ?_)
                  · skip
                    refine dk_aload_n (pc' := 135) hE dX11_ask_134 rfl rfl rfl ?_
                    refine dk_iload (pc' := 137) hE dX11_ask_135 rfl rfl ?_
                    refine dk_aload_n (pc' := 138) hE dX11_ask_137 rfl rfl rfl ?_
                    refine gf_11_60 (pc' := 141) hE fl_X11_452 dX11_ask_138 is_141 rfl (fun v295 hv295 htv295 hbv295 => ?_)
                    refine dk_icmp_ge (tgt := 149) (pc' := 144) hE dX11_ask_141 (by decide) rfl (fun hc296 => ?_) (fun hc296 => ?_)
                    · skip
                      refine dk_aload_n (pc' := 150) hE dX11_ask_149 rfl rfl rfl ?_
                      refine gf_11_60 (pc' := 153) hE fl_X11_452 dX11_ask_150 is_141 rfl (fun v297 hv297 htv297 hbv297 => ?_)
                      have hq297 : v295 = v297 := (show v297 = v295 by rw [hv297, hv295]).symm
                      subst hq297
                      clear htv297 hbv297
                      refine pf_11_60 (pc' := 156) hE fl_X11_452 dX11_ask_153 is_141 trivial rfl (fun σ298 eσ298 => ?_)
                      refine dk_aload_n (pc' := 157) hE dX11_ask_156 rfl rfl rfl ?_
                      refine gf_11_48 (pc' := 160) (w := 172) hE fl_X11_107 dX11_ask_157 is_141 rfl rfl ?_
                      refine dk_iload (pc' := 162) hE dX11_ask_160 rfl rfl ?_
                      refine ga_100 (pc' := 163) hE dX11_ask_162 is_172 (by omega) rfl (fun v299 hv299 htv299 hbv299 => ?_)
                      have hq299 : v109 = v299 := (show v299 = v109 by rw [hv299, eσ298, dk_up_n (show ¬ (172 = 141 ∧ i = 60) by omega), hv109]).symm
                      subst hq299
                      clear htv299 hbv299
                      refine dk_iload_n (pc' := 164) hE dX11_ask_163 rfl rfl rfl ?_
                      refine dk_icmp_ne (tgt := 189) (pc' := 167) hE dX11_ask_164 (by decide) rfl (fun hc300 => ?_) (fun hc300 => ?_)
                      · skip
                        refine dk_iload (pc' := 191) hE dX11_ask_189 rfl rfl ?_
                        refine dk_bipush (pc' := 193) hE dX11_ask_191 (by decide) rfl ?_
                        refine dk_icmp_gt (tgt := 217) (pc' := 196) hE dX11_ask_193 (by decide) rfl (fun hc301 => ?_) (fun hc301 => ?_)
                        · skip
                          obtain ⟨v302, hv302⟩ : ∃ z : Int, z = i + 1 := ⟨_, rfl⟩
                          refine dk_iinc (pc' := 220) (ls' := [(4, 141), (0, b), (0, p), (0, d), (0, k), (0, m), (0, v302), (0, v14)]) hE dX11_ask_217 rfl hv302.symm (by omega) rfl (by decide) rfl ?_
                          refine dk_goto (tgt := 47) hE dX11_ask_220 (by decide) ?_
                          refine dk_drop (ls' := [(4, 141), (0, b), (0, p), (0, d), (0, k), (0, m), (0, v302), (9, 0)]) [true, true, true, true, true, true, true, false] rfl ?_
                          exact ih47 m v302 σ298 (by omega) (fun k_ j_ h_ => by rw [eσ298, dk_up_n (show ¬ (k_ = 141 ∧ j_ = 60) from fun q_ => h_ (Or.inr (Or.inr (Or.inr (q_))))), hF47 k_ j_ (fun w_ => h_ (w_.elim (fun x0_ => Or.inl (x0_)) (fun y0_ => y0_.elim (fun x1_ => Or.inr (Or.inl (x1_))) (fun y1_ => y1_.elim (fun x2_ => Or.inr (Or.inr (Or.inl (x2_)))) (fun y2_ => Or.inr (Or.inr (Or.inr (y2_))))))))]) (by omega)
                        · skip
                          refine dk_aload_n (pc' := 197) hE dX11_ask_196 rfl rfl rfl ?_
                          refine dk_dup (pc' := 198) hE dX11_ask_197 (show (4 : Nat) ≠ 3 by decide) rfl ?_
                          refine gf_11_59 (pc' := 201) hE fl_X11_449 dX11_ask_198 is_141 rfl (fun v303 hv303 htv303 hbv303 => ?_)
                          refine dk_aload_n (pc' := 202) hE dX11_ask_201 rfl rfl rfl ?_
                          refine dk_aload_n (pc' := 203) hE dX11_ask_202 rfl rfl rfl ?_
                          refine gf_11_48 (pc' := 206) (w := 172) hE fl_X11_107 dX11_ask_203 is_141 rfl rfl ?_
                          refine dk_iload (pc' := 208) hE dX11_ask_206 rfl rfl ?_
                          refine ga_100 (pc' := 209) hE dX11_ask_208 is_172 (by omega) rfl (fun v304 hv304 htv304 hbv304 => ?_)
                          have hq304 : v109 = v304 := (show v304 = v109 by rw [hv304, hv299]).symm
                          subst hq304
                          clear htv304 hbv304
                          have gv109 := hG.1 i (by omega) (by omega)
                          refine dk_iconst (pc' := 210) hE dX11_ask_209 (by decide) rfl ?_
                          refine dk_cV (pc' := 213) (as := [(0, v109), (0, 0)]) hE lk_X11_362 (ct_X11_loadOf l G hGd v109 0) dX11_ask_210 rfl is_141 rfl (by decide) (Nat.le_of_ble_eq_true rfl) ⟨rfl, (by omega), (by omega)⟩ rfl (fun r306 σ305 hr306 hor306 => ?_)
                          obtain ⟨v307, rfl, hfσ305, hpr306⟩ := hr306
                          have hsσ305 : σ298 = σ305 := (funext (fun k => funext (fun j => hfσ305 k j not_false))).symm
                          subst hsσ305
                          refine dk_iaddW (pc' := 214) hE dX11_ask_213 rfl (fun v308 hv308 _ => ?_)
                          refine pf_11_59 (pc' := 217) hE fl_X11_449 dX11_ask_214 is_141 trivial rfl (fun σ309 eσ309 => ?_)
                          obtain ⟨v310, hv310⟩ : ∃ z : Int, z = i + 1 := ⟨_, rfl⟩
                          refine dk_iinc (pc' := 220) (ls' := [(4, 141), (0, b), (0, p), (0, d), (0, k), (0, m), (0, v310), (0, v14)]) hE dX11_ask_217 rfl hv310.symm (by omega) rfl (by decide) rfl ?_
                          refine dk_goto (tgt := 47) hE dX11_ask_220 (by decide) ?_
                          refine dk_drop (ls' := [(4, 141), (0, b), (0, p), (0, d), (0, k), (0, m), (0, v310), (9, 0)]) [true, true, true, true, true, true, true, false] rfl ?_
                          exact ih47 m v310 σ309 (by omega) (fun k_ j_ h_ => by rw [eσ309, dk_up_n (show ¬ (k_ = 141 ∧ j_ = 59) from fun q_ => h_ (Or.inr (Or.inr (Or.inl (q_))))), eσ298, dk_up_n (show ¬ (k_ = 141 ∧ j_ = 60) from fun q_ => h_ (Or.inr (Or.inr (Or.inr (q_))))), hF47 k_ j_ (fun w_ => h_ (w_.elim (fun x0_ => Or.inl (x0_)) (fun y0_ => y0_.elim (fun x1_ => Or.inr (Or.inl (x1_))) (fun y1_ => y1_.elim (fun x2_ => Or.inr (Or.inr (Or.inl (x2_)))) (fun y2_ => Or.inr (Or.inr (Or.inr (y2_))))))))]) (by omega)
                      · skip
                        refine dk_aload_n (pc' := 168) hE dX11_ask_167 rfl rfl rfl ?_
                        refine dk_iload (pc' := 170) hE dX11_ask_168 rfl rfl ?_
                        refine dk_aload_n (pc' := 171) hE dX11_ask_170 rfl rfl rfl ?_
                        refine gf_11_58 (pc' := 174) hE fl_X11_446 dX11_ask_171 is_141 rfl (fun v311 hv311 htv311 hbv311 => ?_)
                        refine dk_icmp_ge (tgt := 182) (pc' := 177) hE dX11_ask_174 (by decide) rfl (fun hc312 => ?_) (fun hc312 => ?_)
                        · skip
                          refine dk_aload_n (pc' := 183) hE dX11_ask_182 rfl rfl rfl ?_
                          refine gf_11_58 (pc' := 186) hE fl_X11_446 dX11_ask_183 is_141 rfl (fun v313 hv313 htv313 hbv313 => ?_)
                          have hq313 : v311 = v313 := (show v313 = v311 by rw [hv313, hv311]).symm
                          subst hq313
                          clear htv313 hbv313
                          refine pf_11_58 (pc' := 189) hE fl_X11_446 dX11_ask_186 is_141 trivial rfl (fun σ314 eσ314 => ?_)
                          refine dk_iload (pc' := 191) hE dX11_ask_189 rfl rfl ?_
                          refine dk_bipush (pc' := 193) hE dX11_ask_191 (by decide) rfl ?_
                          refine dk_icmp_gt (tgt := 217) (pc' := 196) hE dX11_ask_193 (by decide) rfl (fun hc315 => ?_) (fun hc315 => ?_)
                          · skip
                            obtain ⟨v316, hv316⟩ : ∃ z : Int, z = i + 1 := ⟨_, rfl⟩
                            refine dk_iinc (pc' := 220) (ls' := [(4, 141), (0, b), (0, p), (0, d), (0, k), (0, m), (0, v316), (0, v14)]) hE dX11_ask_217 rfl hv316.symm (by omega) rfl (by decide) rfl ?_
                            refine dk_goto (tgt := 47) hE dX11_ask_220 (by decide) ?_
                            refine dk_drop (ls' := [(4, 141), (0, b), (0, p), (0, d), (0, k), (0, m), (0, v316), (9, 0)]) [true, true, true, true, true, true, true, false] rfl ?_
                            exact ih47 m v316 σ314 (by omega) (fun k_ j_ h_ => by rw [eσ314, dk_up_n (show ¬ (k_ = 141 ∧ j_ = 58) from fun q_ => h_ (Or.inr (Or.inl (q_)))), eσ298, dk_up_n (show ¬ (k_ = 141 ∧ j_ = 60) from fun q_ => h_ (Or.inr (Or.inr (Or.inr (q_))))), hF47 k_ j_ (fun w_ => h_ (w_.elim (fun x0_ => Or.inl (x0_)) (fun y0_ => y0_.elim (fun x1_ => Or.inr (Or.inl (x1_))) (fun y1_ => y1_.elim (fun x2_ => Or.inr (Or.inr (Or.inl (x2_)))) (fun y2_ => Or.inr (Or.inr (Or.inr (y2_))))))))]) (by omega)
                          · skip
                            refine dk_aload_n (pc' := 197) hE dX11_ask_196 rfl rfl rfl ?_
                            refine dk_dup (pc' := 198) hE dX11_ask_197 (show (4 : Nat) ≠ 3 by decide) rfl ?_
                            refine gf_11_59 (pc' := 201) hE fl_X11_449 dX11_ask_198 is_141 rfl (fun v317 hv317 htv317 hbv317 => ?_)
                            refine dk_aload_n (pc' := 202) hE dX11_ask_201 rfl rfl rfl ?_
                            refine dk_aload_n (pc' := 203) hE dX11_ask_202 rfl rfl rfl ?_
                            refine gf_11_48 (pc' := 206) (w := 172) hE fl_X11_107 dX11_ask_203 is_141 rfl rfl ?_
                            refine dk_iload (pc' := 208) hE dX11_ask_206 rfl rfl ?_
                            refine ga_100 (pc' := 209) hE dX11_ask_208 is_172 (by omega) rfl (fun v318 hv318 htv318 hbv318 => ?_)
                            have hq318 : v109 = v318 := (show v318 = v109 by rw [hv318, eσ314, dk_up_n (show ¬ (172 = 141 ∧ i = 58) by omega), hv299]).symm
                            subst hq318
                            clear htv318 hbv318
                            have gv109 := hG.1 i (by omega) (by omega)
                            refine dk_iconst (pc' := 210) hE dX11_ask_209 (by decide) rfl ?_
                            refine dk_cV (pc' := 213) (as := [(0, v109), (0, 0)]) hE lk_X11_362 (ct_X11_loadOf l G hGd v109 0) dX11_ask_210 rfl is_141 rfl (by decide) (Nat.le_of_ble_eq_true rfl) ⟨rfl, (by omega), (by omega)⟩ rfl (fun r320 σ319 hr320 hor320 => ?_)
                            obtain ⟨v321, rfl, hfσ319, hpr320⟩ := hr320
                            have hsσ319 : σ314 = σ319 := (funext (fun k => funext (fun j => hfσ319 k j not_false))).symm
                            subst hsσ319
                            refine dk_iaddW (pc' := 214) hE dX11_ask_213 rfl (fun v322 hv322 _ => ?_)
                            refine pf_11_59 (pc' := 217) hE fl_X11_449 dX11_ask_214 is_141 trivial rfl (fun σ323 eσ323 => ?_)
                            obtain ⟨v324, hv324⟩ : ∃ z : Int, z = i + 1 := ⟨_, rfl⟩
                            refine dk_iinc (pc' := 220) (ls' := [(4, 141), (0, b), (0, p), (0, d), (0, k), (0, m), (0, v324), (0, v14)]) hE dX11_ask_217 rfl hv324.symm (by omega) rfl (by decide) rfl ?_
                            refine dk_goto (tgt := 47) hE dX11_ask_220 (by decide) ?_
                            refine dk_drop (ls' := [(4, 141), (0, b), (0, p), (0, d), (0, k), (0, m), (0, v324), (9, 0)]) [true, true, true, true, true, true, true, false] rfl ?_
                            exact ih47 m v324 σ323 (by omega) (fun k_ j_ h_ => by rw [eσ323, dk_up_n (show ¬ (k_ = 141 ∧ j_ = 59) from fun q_ => h_ (Or.inr (Or.inr (Or.inl (q_))))), eσ314, dk_up_n (show ¬ (k_ = 141 ∧ j_ = 58) from fun q_ => h_ (Or.inr (Or.inl (q_)))), eσ298, dk_up_n (show ¬ (k_ = 141 ∧ j_ = 60) from fun q_ => h_ (Or.inr (Or.inr (Or.inr (q_))))), hF47 k_ j_ (fun w_ => h_ (w_.elim (fun x0_ => Or.inl (x0_)) (fun y0_ => y0_.elim (fun x1_ => Or.inr (Or.inl (x1_))) (fun y1_ => y1_.elim (fun x2_ => Or.inr (Or.inr (Or.inl (x2_)))) (fun y2_ => Or.inr (Or.inr (Or.inr (y2_))))))))]) (by omega)
                        · skip
                          refine dk_iload (pc' := 179) hE dX11_ask_177 rfl rfl ?_
                          refine dk_goto (tgt := 186) hE dX11_ask_179 (by decide) ?_
                          refine pf_11_58 (pc' := 189) hE fl_X11_446 dX11_ask_186 is_141 trivial rfl (fun σ325 eσ325 => ?_)
                          refine dk_iload (pc' := 191) hE dX11_ask_189 rfl rfl ?_
                          refine dk_bipush (pc' := 193) hE dX11_ask_191 (by decide) rfl ?_
                          refine dk_icmp_gt (tgt := 217) (pc' := 196) hE dX11_ask_193 (by decide) rfl (fun hc326 => ?_) (fun hc326 => ?_)
                          · skip
                            obtain ⟨v327, hv327⟩ : ∃ z : Int, z = i + 1 := ⟨_, rfl⟩
                            refine dk_iinc (pc' := 220) (ls' := [(4, 141), (0, b), (0, p), (0, d), (0, k), (0, m), (0, v327), (0, v14)]) hE dX11_ask_217 rfl hv327.symm (by omega) rfl (by decide) rfl ?_
                            refine dk_goto (tgt := 47) hE dX11_ask_220 (by decide) ?_
                            refine dk_drop (ls' := [(4, 141), (0, b), (0, p), (0, d), (0, k), (0, m), (0, v327), (9, 0)]) [true, true, true, true, true, true, true, false] rfl ?_
                            exact ih47 m v327 σ325 (by omega) (fun k_ j_ h_ => by rw [eσ325, dk_up_n (show ¬ (k_ = 141 ∧ j_ = 58) from fun q_ => h_ (Or.inr (Or.inl (q_)))), eσ298, dk_up_n (show ¬ (k_ = 141 ∧ j_ = 60) from fun q_ => h_ (Or.inr (Or.inr (Or.inr (q_))))), hF47 k_ j_ (fun w_ => h_ (w_.elim (fun x0_ => Or.inl (x0_)) (fun y0_ => y0_.elim (fun x1_ => Or.inr (Or.inl (x1_))) (fun y1_ => y1_.elim (fun x2_ => Or.inr (Or.inr (Or.inl (x2_)))) (fun y2_ => Or.inr (Or.inr (Or.inr (y2_))))))))]) (by omega)
                          · skip
                            refine dk_aload_n (pc' := 197) hE dX11_ask_196 rfl rfl rfl ?_
                            refine dk_dup (pc' := 198) hE dX11_ask_197 (show (4 : Nat) ≠ 3 by decide) rfl ?_
                            refine gf_11_59 (pc' := 201) hE fl_X11_449 dX11_ask_198 is_141 rfl (fun v328 hv328 htv328 hbv328 => ?_)
                            refine dk_aload_n (pc' := 202) hE dX11_ask_201 rfl rfl rfl ?_
                            refine dk_aload_n (pc' := 203) hE dX11_ask_202 rfl rfl rfl ?_
                            refine gf_11_48 (pc' := 206) (w := 172) hE fl_X11_107 dX11_ask_203 is_141 rfl rfl ?_
                            refine dk_iload (pc' := 208) hE dX11_ask_206 rfl rfl ?_
                            refine ga_100 (pc' := 209) hE dX11_ask_208 is_172 (by omega) rfl (fun v329 hv329 htv329 hbv329 => ?_)
                            have hq329 : v109 = v329 := (show v329 = v109 by rw [hv329, eσ325, dk_up_n (show ¬ (172 = 141 ∧ i = 58) by omega), hv299]).symm
                            subst hq329
                            clear htv329 hbv329
                            have gv109 := hG.1 i (by omega) (by omega)
                            refine dk_iconst (pc' := 210) hE dX11_ask_209 (by decide) rfl ?_
                            refine dk_cV (pc' := 213) (as := [(0, v109), (0, 0)]) hE lk_X11_362 (ct_X11_loadOf l G hGd v109 0) dX11_ask_210 rfl is_141 rfl (by decide) (Nat.le_of_ble_eq_true rfl) ⟨rfl, (by omega), (by omega)⟩ rfl (fun r331 σ330 hr331 hor331 => ?_)
                            obtain ⟨v332, rfl, hfσ330, hpr331⟩ := hr331
                            have hsσ330 : σ325 = σ330 := (funext (fun k => funext (fun j => hfσ330 k j not_false))).symm
                            subst hsσ330
                            refine dk_iaddW (pc' := 214) hE dX11_ask_213 rfl (fun v333 hv333 _ => ?_)
                            refine pf_11_59 (pc' := 217) hE fl_X11_449 dX11_ask_214 is_141 trivial rfl (fun σ334 eσ334 => ?_)
                            obtain ⟨v335, hv335⟩ : ∃ z : Int, z = i + 1 := ⟨_, rfl⟩
                            refine dk_iinc (pc' := 220) (ls' := [(4, 141), (0, b), (0, p), (0, d), (0, k), (0, m), (0, v335), (0, v14)]) hE dX11_ask_217 rfl hv335.symm (by omega) rfl (by decide) rfl ?_
                            refine dk_goto (tgt := 47) hE dX11_ask_220 (by decide) ?_
                            refine dk_drop (ls' := [(4, 141), (0, b), (0, p), (0, d), (0, k), (0, m), (0, v335), (9, 0)]) [true, true, true, true, true, true, true, false] rfl ?_
                            exact ih47 m v335 σ334 (by omega) (fun k_ j_ h_ => by rw [eσ334, dk_up_n (show ¬ (k_ = 141 ∧ j_ = 59) from fun q_ => h_ (Or.inr (Or.inr (Or.inl (q_))))), eσ325, dk_up_n (show ¬ (k_ = 141 ∧ j_ = 58) from fun q_ => h_ (Or.inr (Or.inl (q_)))), eσ298, dk_up_n (show ¬ (k_ = 141 ∧ j_ = 60) from fun q_ => h_ (Or.inr (Or.inr (Or.inr (q_))))), hF47 k_ j_ (fun w_ => h_ (w_.elim (fun x0_ => Or.inl (x0_)) (fun y0_ => y0_.elim (fun x1_ => Or.inr (Or.inl (x1_))) (fun y1_ => y1_.elim (fun x2_ => Or.inr (Or.inr (Or.inl (x2_)))) (fun y2_ => Or.inr (Or.inr (Or.inr (y2_))))))))]) (by omega)
                    · skip
                      refine dk_iload (pc' := 146) hE dX11_ask_144 rfl rfl ?_
                      refine dk_goto (tgt := 153) hE dX11_ask_146 (by decide) ?_
                      refine pf_11_60 (pc' := 156) hE fl_X11_452 dX11_ask_153 is_141 trivial rfl (fun σ336 eσ336 => ?_)
                      refine dk_aload_n (pc' := 157) hE dX11_ask_156 rfl rfl rfl ?_
                      refine gf_11_48 (pc' := 160) (w := 172) hE fl_X11_107 dX11_ask_157 is_141 rfl rfl ?_
                      refine dk_iload (pc' := 162) hE dX11_ask_160 rfl rfl ?_
                      refine ga_100 (pc' := 163) hE dX11_ask_162 is_172 (by omega) rfl (fun v337 hv337 htv337 hbv337 => ?_)
                      have hq337 : v109 = v337 := (show v337 = v109 by rw [hv337, eσ336, dk_up_n (show ¬ (172 = 141 ∧ i = 60) by omega), hv109]).symm
                      subst hq337
                      clear htv337 hbv337
                      refine dk_iload_n (pc' := 164) hE dX11_ask_163 rfl rfl rfl ?_
                      refine dk_icmp_ne (tgt := 189) (pc' := 167) hE dX11_ask_164 (by decide) rfl (fun hc338 => ?_) (fun hc338 => ?_)
                      · skip
                        refine dk_iload (pc' := 191) hE dX11_ask_189 rfl rfl ?_
                        refine dk_bipush (pc' := 193) hE dX11_ask_191 (by decide) rfl ?_
                        refine dk_icmp_gt (tgt := 217) (pc' := 196) hE dX11_ask_193 (by decide) rfl (fun hc339 => ?_) (fun hc339 => ?_)
                        · skip
                          obtain ⟨v340, hv340⟩ : ∃ z : Int, z = i + 1 := ⟨_, rfl⟩
                          refine dk_iinc (pc' := 220) (ls' := [(4, 141), (0, b), (0, p), (0, d), (0, k), (0, m), (0, v340), (0, v14)]) hE dX11_ask_217 rfl hv340.symm (by omega) rfl (by decide) rfl ?_
                          refine dk_goto (tgt := 47) hE dX11_ask_220 (by decide) ?_
                          refine dk_drop (ls' := [(4, 141), (0, b), (0, p), (0, d), (0, k), (0, m), (0, v340), (9, 0)]) [true, true, true, true, true, true, true, false] rfl ?_
                          exact ih47 m v340 σ336 (by omega) (fun k_ j_ h_ => by rw [eσ336, dk_up_n (show ¬ (k_ = 141 ∧ j_ = 60) from fun q_ => h_ (Or.inr (Or.inr (Or.inr (q_))))), hF47 k_ j_ (fun w_ => h_ (w_.elim (fun x0_ => Or.inl (x0_)) (fun y0_ => y0_.elim (fun x1_ => Or.inr (Or.inl (x1_))) (fun y1_ => y1_.elim (fun x2_ => Or.inr (Or.inr (Or.inl (x2_)))) (fun y2_ => Or.inr (Or.inr (Or.inr (y2_))))))))]) (by omega)
                        · skip
                          refine dk_aload_n (pc' := 197) hE dX11_ask_196 rfl rfl rfl ?_
                          refine dk_dup (pc' := 198) hE dX11_ask_197 (show (4 : Nat) ≠ 3 by decide) rfl ?_
                          refine gf_11_59 (pc' := 201) hE fl_X11_449 dX11_ask_198 is_141 rfl (fun v341 hv341 htv341 hbv341 => ?_)
                          refine dk_aload_n (pc' := 202) hE dX11_ask_201 rfl rfl rfl ?_
                          refine dk_aload_n (pc' := 203) hE dX11_ask_202 rfl rfl rfl ?_
                          refine gf_11_48 (pc' := 206) (w := 172) hE fl_X11_107 dX11_ask_203 is_141 rfl rfl ?_
                          refine dk_iload (pc' := 208) hE dX11_ask_206 rfl rfl ?_
                          refine ga_100 (pc' := 209) hE dX11_ask_208 is_172 (by omega) rfl (fun v342 hv342 htv342 hbv342 => ?_)
                          have hq342 : v109 = v342 := (show v342 = v109 by rw [hv342, hv337]).symm
                          subst hq342
                          clear htv342 hbv342
                          have gv109 := hG.1 i (by omega) (by omega)
                          refine dk_iconst (pc' := 210) hE dX11_ask_209 (by decide) rfl ?_
                          refine dk_cV (pc' := 213) (as := [(0, v109), (0, 0)]) hE lk_X11_362 (ct_X11_loadOf l G hGd v109 0) dX11_ask_210 rfl is_141 rfl (by decide) (Nat.le_of_ble_eq_true rfl) ⟨rfl, (by omega), (by omega)⟩ rfl (fun r344 σ343 hr344 hor344 => ?_)
                          obtain ⟨v345, rfl, hfσ343, hpr344⟩ := hr344
                          have hsσ343 : σ336 = σ343 := (funext (fun k => funext (fun j => hfσ343 k j not_false))).symm
                          subst hsσ343
                          refine dk_iaddW (pc' := 214) hE dX11_ask_213 rfl (fun v346 hv346 _ => ?_)
                          refine pf_11_59 (pc' := 217) hE fl_X11_449 dX11_ask_214 is_141 trivial rfl (fun σ347 eσ347 => ?_)
                          obtain ⟨v348, hv348⟩ : ∃ z : Int, z = i + 1 := ⟨_, rfl⟩
                          refine dk_iinc (pc' := 220) (ls' := [(4, 141), (0, b), (0, p), (0, d), (0, k), (0, m), (0, v348), (0, v14)]) hE dX11_ask_217 rfl hv348.symm (by omega) rfl (by decide) rfl ?_
                          refine dk_goto (tgt := 47) hE dX11_ask_220 (by decide) ?_
                          refine dk_drop (ls' := [(4, 141), (0, b), (0, p), (0, d), (0, k), (0, m), (0, v348), (9, 0)]) [true, true, true, true, true, true, true, false] rfl ?_
                          exact ih47 m v348 σ347 (by omega) (fun k_ j_ h_ => by rw [eσ347, dk_up_n (show ¬ (k_ = 141 ∧ j_ = 59) from fun q_ => h_ (Or.inr (Or.inr (Or.inl (q_))))), eσ336, dk_up_n (show ¬ (k_ = 141 ∧ j_ = 60) from fun q_ => h_ (Or.inr (Or.inr (Or.inr (q_))))), hF47 k_ j_ (fun w_ => h_ (w_.elim (fun x0_ => Or.inl (x0_)) (fun y0_ => y0_.elim (fun x1_ => Or.inr (Or.inl (x1_))) (fun y1_ => y1_.elim (fun x2_ => Or.inr (Or.inr (Or.inl (x2_)))) (fun y2_ => Or.inr (Or.inr (Or.inr (y2_))))))))]) (by omega)
                      · skip
                        refine dk_aload_n (pc' := 168) hE dX11_ask_167 rfl rfl rfl ?_
                        refine dk_iload (pc' := 170) hE dX11_ask_168 rfl rfl ?_
                        refine dk_aload_n (pc' := 171) hE dX11_ask_170 rfl rfl rfl ?_
                        refine gf_11_58 (pc' := 174) hE fl_X11_446 dX11_ask_171 is_141 rfl (fun v349 hv349 htv349 hbv349 => ?_)
                        refine dk_icmp_ge (tgt := 182) (pc' := 177) hE dX11_ask_174 (by decide) rfl (fun hc350 => ?_) (fun hc350 => ?_)
                        · skip
                          refine dk_aload_n (pc' := 183) hE dX11_ask_182 rfl rfl rfl ?_
                          refine gf_11_58 (pc' := 186) hE fl_X11_446 dX11_ask_183 is_141 rfl (fun v351 hv351 htv351 hbv351 => ?_)
                          have hq351 : v349 = v351 := (show v351 = v349 by rw [hv351, hv349]).symm
                          subst hq351
                          clear htv351 hbv351
                          refine pf_11_58 (pc' := 189) hE fl_X11_446 dX11_ask_186 is_141 trivial rfl (fun σ352 eσ352 => ?_)
                          refine dk_iload (pc' := 191) hE dX11_ask_189 rfl rfl ?_
                          refine dk_bipush (pc' := 193) hE dX11_ask_191 (by decide) rfl ?_
                          refine dk_icmp_gt (tgt := 217) (pc' := 196) hE dX11_ask_193 (by decide) rfl (fun hc353 => ?_) (fun hc353 => ?_)
                          · skip
                            obtain ⟨v354, hv354⟩ : ∃ z : Int, z = i + 1 := ⟨_, rfl⟩
                            refine dk_iinc (pc' := 220) (ls' := [(4, 141), (0, b), (0, p), (0, d), (0, k), (0, m), (0, v354), (0, v14)]) hE dX11_ask_217 rfl hv354.symm (by omega) rfl (by decide) rfl ?_
                            refine dk_goto (tgt := 47) hE dX11_ask_220 (by decide) ?_
                            refine dk_drop (ls' := [(4, 141), (0, b), (0, p), (0, d), (0, k), (0, m), (0, v354), (9, 0)]) [true, true, true, true, true, true, true, false] rfl ?_
                            exact ih47 m v354 σ352 (by omega) (fun k_ j_ h_ => by rw [eσ352, dk_up_n (show ¬ (k_ = 141 ∧ j_ = 58) from fun q_ => h_ (Or.inr (Or.inl (q_)))), eσ336, dk_up_n (show ¬ (k_ = 141 ∧ j_ = 60) from fun q_ => h_ (Or.inr (Or.inr (Or.inr (q_))))), hF47 k_ j_ (fun w_ => h_ (w_.elim (fun x0_ => Or.inl (x0_)) (fun y0_ => y0_.elim (fun x1_ => Or.inr (Or.inl (x1_))) (fun y1_ => y1_.elim (fun x2_ => Or.inr (Or.inr (Or.inl (x2_)))) (fun y2_ => Or.inr (Or.inr (Or.inr (y2_))))))))]) (by omega)
                          · skip
                            refine dk_aload_n (pc' := 197) hE dX11_ask_196 rfl rfl rfl ?_
                            refine dk_dup (pc' := 198) hE dX11_ask_197 (show (4 : Nat) ≠ 3 by decide) rfl ?_
                            refine gf_11_59 (pc' := 201) hE fl_X11_449 dX11_ask_198 is_141 rfl (fun v355 hv355 htv355 hbv355 => ?_)
                            refine dk_aload_n (pc' := 202) hE dX11_ask_201 rfl rfl rfl ?_
                            refine dk_aload_n (pc' := 203) hE dX11_ask_202 rfl rfl rfl ?_
                            refine gf_11_48 (pc' := 206) (w := 172) hE fl_X11_107 dX11_ask_203 is_141 rfl rfl ?_
                            refine dk_iload (pc' := 208) hE dX11_ask_206 rfl rfl ?_
                            refine ga_100 (pc' := 209) hE dX11_ask_208 is_172 (by omega) rfl (fun v356 hv356 htv356 hbv356 => ?_)
                            have hq356 : v109 = v356 := (show v356 = v109 by rw [hv356, eσ352, dk_up_n (show ¬ (172 = 141 ∧ i = 58) by omega), hv337]).symm
                            subst hq356
                            clear htv356 hbv356
                            have gv109 := hG.1 i (by omega) (by omega)
                            refine dk_iconst (pc' := 210) hE dX11_ask_209 (by decide) rfl ?_
                            refine dk_cV (pc' := 213) (as := [(0, v109), (0, 0)]) hE lk_X11_362 (ct_X11_loadOf l G hGd v109 0) dX11_ask_210 rfl is_141 rfl (by decide) (Nat.le_of_ble_eq_true rfl) ⟨rfl, (by omega), (by omega)⟩ rfl (fun r358 σ357 hr358 hor358 => ?_)
                            obtain ⟨v359, rfl, hfσ357, hpr358⟩ := hr358
                            have hsσ357 : σ352 = σ357 := (funext (fun k => funext (fun j => hfσ357 k j not_false))).symm
                            subst hsσ357
                            refine dk_iaddW (pc' := 214) hE dX11_ask_213 rfl (fun v360 hv360 _ => ?_)
                            refine pf_11_59 (pc' := 217) hE fl_X11_449 dX11_ask_214 is_141 trivial rfl (fun σ361 eσ361 => ?_)
                            obtain ⟨v362, hv362⟩ : ∃ z : Int, z = i + 1 := ⟨_, rfl⟩
                            refine dk_iinc (pc' := 220) (ls' := [(4, 141), (0, b), (0, p), (0, d), (0, k), (0, m), (0, v362), (0, v14)]) hE dX11_ask_217 rfl hv362.symm (by omega) rfl (by decide) rfl ?_
                            refine dk_goto (tgt := 47) hE dX11_ask_220 (by decide) ?_
                            refine dk_drop (ls' := [(4, 141), (0, b), (0, p), (0, d), (0, k), (0, m), (0, v362), (9, 0)]) [true, true, true, true, true, true, true, false] rfl ?_
                            exact ih47 m v362 σ361 (by omega) (fun k_ j_ h_ => by rw [eσ361, dk_up_n (show ¬ (k_ = 141 ∧ j_ = 59) from fun q_ => h_ (Or.inr (Or.inr (Or.inl (q_))))), eσ352, dk_up_n (show ¬ (k_ = 141 ∧ j_ = 58) from fun q_ => h_ (Or.inr (Or.inl (q_)))), eσ336, dk_up_n (show ¬ (k_ = 141 ∧ j_ = 60) from fun q_ => h_ (Or.inr (Or.inr (Or.inr (q_))))), hF47 k_ j_ (fun w_ => h_ (w_.elim (fun x0_ => Or.inl (x0_)) (fun y0_ => y0_.elim (fun x1_ => Or.inr (Or.inl (x1_))) (fun y1_ => y1_.elim (fun x2_ => Or.inr (Or.inr (Or.inl (x2_)))) (fun y2_ => Or.inr (Or.inr (Or.inr (y2_))))))))]) (by omega)
                        · skip
                          refine dk_iload (pc' := 179) hE dX11_ask_177 rfl rfl ?_
                          refine dk_goto (tgt := 186) hE dX11_ask_179 (by decide) ?_
                          refine pf_11_58 (pc' := 189) hE fl_X11_446 dX11_ask_186 is_141 trivial rfl (fun σ363 eσ363 => ?_)
                          refine dk_iload (pc' := 191) hE dX11_ask_189 rfl rfl ?_
                          refine dk_bipush (pc' := 193) hE dX11_ask_191 (by decide) rfl ?_
                          refine dk_icmp_gt (tgt := 217) (pc' := 196) hE dX11_ask_193 (by decide) rfl (fun hc364 => ?_) (fun hc364 => ?_)
                          · skip
                            obtain ⟨v365, hv365⟩ : ∃ z : Int, z = i + 1 := ⟨_, rfl⟩
                            refine dk_iinc (pc' := 220) (ls' := [(4, 141), (0, b), (0, p), (0, d), (0, k), (0, m), (0, v365), (0, v14)]) hE dX11_ask_217 rfl hv365.symm (by omega) rfl (by decide) rfl ?_
                            refine dk_goto (tgt := 47) hE dX11_ask_220 (by decide) ?_
                            refine dk_drop (ls' := [(4, 141), (0, b), (0, p), (0, d), (0, k), (0, m), (0, v365), (9, 0)]) [true, true, true, true, true, true, true, false] rfl ?_
                            exact ih47 m v365 σ363 (by omega) (fun k_ j_ h_ => by rw [eσ363, dk_up_n (show ¬ (k_ = 141 ∧ j_ = 58) from fun q_ => h_ (Or.inr (Or.inl (q_)))), eσ336, dk_up_n (show ¬ (k_ = 141 ∧ j_ = 60) from fun q_ => h_ (Or.inr (Or.inr (Or.inr (q_))))), hF47 k_ j_ (fun w_ => h_ (w_.elim (fun x0_ => Or.inl (x0_)) (fun y0_ => y0_.elim (fun x1_ => Or.inr (Or.inl (x1_))) (fun y1_ => y1_.elim (fun x2_ => Or.inr (Or.inr (Or.inl (x2_)))) (fun y2_ => Or.inr (Or.inr (Or.inr (y2_))))))))]) (by omega)
                          · skip
                            refine dk_aload_n (pc' := 197) hE dX11_ask_196 rfl rfl rfl ?_
                            refine dk_dup (pc' := 198) hE dX11_ask_197 (show (4 : Nat) ≠ 3 by decide) rfl ?_
                            refine gf_11_59 (pc' := 201) hE fl_X11_449 dX11_ask_198 is_141 rfl (fun v366 hv366 htv366 hbv366 => ?_)
                            refine dk_aload_n (pc' := 202) hE dX11_ask_201 rfl rfl rfl ?_
                            refine dk_aload_n (pc' := 203) hE dX11_ask_202 rfl rfl rfl ?_
                            refine gf_11_48 (pc' := 206) (w := 172) hE fl_X11_107 dX11_ask_203 is_141 rfl rfl ?_
                            refine dk_iload (pc' := 208) hE dX11_ask_206 rfl rfl ?_
                            refine ga_100 (pc' := 209) hE dX11_ask_208 is_172 (by omega) rfl (fun v367 hv367 htv367 hbv367 => ?_)
                            have hq367 : v109 = v367 := (show v367 = v109 by rw [hv367, eσ363, dk_up_n (show ¬ (172 = 141 ∧ i = 58) by omega), hv337]).symm
                            subst hq367
                            clear htv367 hbv367
                            have gv109 := hG.1 i (by omega) (by omega)
                            refine dk_iconst (pc' := 210) hE dX11_ask_209 (by decide) rfl ?_
                            refine dk_cV (pc' := 213) (as := [(0, v109), (0, 0)]) hE lk_X11_362 (ct_X11_loadOf l G hGd v109 0) dX11_ask_210 rfl is_141 rfl (by decide) (Nat.le_of_ble_eq_true rfl) ⟨rfl, (by omega), (by omega)⟩ rfl (fun r369 σ368 hr369 hor369 => ?_)
                            obtain ⟨v370, rfl, hfσ368, hpr369⟩ := hr369
                            have hsσ368 : σ363 = σ368 := (funext (fun k => funext (fun j => hfσ368 k j not_false))).symm
                            subst hsσ368
                            refine dk_iaddW (pc' := 214) hE dX11_ask_213 rfl (fun v371 hv371 _ => ?_)
                            refine pf_11_59 (pc' := 217) hE fl_X11_449 dX11_ask_214 is_141 trivial rfl (fun σ372 eσ372 => ?_)
                            obtain ⟨v373, hv373⟩ : ∃ z : Int, z = i + 1 := ⟨_, rfl⟩
                            refine dk_iinc (pc' := 220) (ls' := [(4, 141), (0, b), (0, p), (0, d), (0, k), (0, m), (0, v373), (0, v14)]) hE dX11_ask_217 rfl hv373.symm (by omega) rfl (by decide) rfl ?_
                            refine dk_goto (tgt := 47) hE dX11_ask_220 (by decide) ?_
                            refine dk_drop (ls' := [(4, 141), (0, b), (0, p), (0, d), (0, k), (0, m), (0, v373), (9, 0)]) [true, true, true, true, true, true, true, false] rfl ?_
                            exact ih47 m v373 σ372 (by omega) (fun k_ j_ h_ => by rw [eσ372, dk_up_n (show ¬ (k_ = 141 ∧ j_ = 59) from fun q_ => h_ (Or.inr (Or.inr (Or.inl (q_))))), eσ363, dk_up_n (show ¬ (k_ = 141 ∧ j_ = 58) from fun q_ => h_ (Or.inr (Or.inl (q_)))), eσ336, dk_up_n (show ¬ (k_ = 141 ∧ j_ = 60) from fun q_ => h_ (Or.inr (Or.inr (Or.inr (q_))))), hF47 k_ j_ (fun w_ => h_ (w_.elim (fun x0_ => Or.inl (x0_)) (fun y0_ => y0_.elim (fun x1_ => Or.inr (Or.inl (x1_))) (fun y1_ => y1_.elim (fun x2_ => Or.inr (Or.inr (Or.inl (x2_)))) (fun y2_ => Or.inr (Or.inr (Or.inr (y2_))))))))]) (by omega)
                  · skip
                    refine dk_goto (tgt := 217) hE dX11_ask_131 (by decide) ?_
                    obtain ⟨v374, hv374⟩ : ∃ z : Int, z = i + 1 := ⟨_, rfl⟩
                    refine dk_iinc (pc' := 220) (ls' := [(4, 141), (0, b), (0, p), (0, d), (0, k), (0, m), (0, v374), (0, v14)]) hE dX11_ask_217 rfl hv374.symm (by omega) rfl (by decide) rfl ?_
                    refine dk_goto (tgt := 47) hE dX11_ask_220 (by decide) ?_
                    refine dk_drop (ls' := [(4, 141), (0, b), (0, p), (0, d), (0, k), (0, m), (0, v374), (9, 0)]) [true, true, true, true, true, true, true, false] rfl ?_
                    exact ih47 m v374 σ47c (by omega) (fun k_ j_ h_ => by rw [hF47 k_ j_ (fun w_ => h_ (w_.elim (fun x0_ => Or.inl (x0_)) (fun y0_ => y0_.elim (fun x1_ => Or.inr (Or.inl (x1_))) (fun y1_ => y1_.elim (fun x2_ => Or.inr (Or.inr (Or.inl (x2_)))) (fun y2_ => Or.inr (Or.inr (Or.inr (y2_))))))))]) (by omega)
                · skip
                  refine dk_if_eq (tgt := 217) (pc' := 125) hE dX11_ask_122 (by decide) rfl (fun hc375 => ?_) (fun hc375 => absurd hc375 (by decide))
                  obtain ⟨v376, hv376⟩ : ∃ z : Int, z = i + 1 := ⟨_, rfl⟩
                  refine dk_iinc (pc' := 220) (ls' := [(4, 141), (0, b), (0, p), (0, d), (0, k), (0, m), (0, v376), (0, v14)]) hE dX11_ask_217 rfl hv376.symm (by omega) rfl (by decide) rfl ?_
                  refine dk_goto (tgt := 47) hE dX11_ask_220 (by decide) ?_
                  refine dk_drop (ls' := [(4, 141), (0, b), (0, p), (0, d), (0, k), (0, m), (0, v376), (9, 0)]) [true, true, true, true, true, true, true, false] rfl ?_
                  exact ih47 m v376 σ47c (by omega) (fun k_ j_ h_ => by rw [hF47 k_ j_ (fun w_ => h_ (w_.elim (fun x0_ => Or.inl (x0_)) (fun y0_ => y0_.elim (fun x1_ => Or.inr (Or.inl (x1_))) (fun y1_ => y1_.elim (fun x2_ => Or.inr (Or.inr (Or.inl (x2_)))) (fun y2_ => Or.inr (Or.inr (Or.inr (y2_))))))))]) (by omega)
              · skip
                refine dk_iload (pc' := 105) hE dX11_ask_103 rfl rfl ?_
                refine dk_goto (tgt := 110) hE dX11_ask_105 (by decide) ?_
                refine dk_istore (pc' := 112) (ls' := [(4, 141), (0, b), (0, p), (0, d), (0, k), (0, v14), (0, i), (0, v14)]) hE dX11_ask_110 rfl (by decide) rfl ?_
                refine dk_aload_n (pc' := 113) hE dX11_ask_112 rfl rfl rfl ?_
                refine dk_iload (pc' := 115) hE dX11_ask_113 rfl rfl ?_
                refine dk_iconst (pc' := 116) hE dX11_ask_115 (by decide) rfl ?_
                refine dk_iload_n (pc' := 117) hE dX11_ask_116 rfl rfl rfl ?_
                refine dk_iload (pc' := 119) hE dX11_ask_117 rfl rfl ?_
                refine dk_cV (pc' := 122) (as := [(0, i), (0, 1), (0, b), (0, k)]) hE lk_X11_430 (ct_X11_isFact l G hGd i 1 b k) dX11_ask_119 rfl is_141 rfl (by decide) (Nat.le_of_ble_eq_true rfl) ⟨rfl, (by omega)⟩ rfl (fun r378 σ377 hr378 hor378 => ?_)
                have hz379 : σ47c 170 i = σ 170 i := by rw [hF47 170 i (by omega), eσ7, dk_up_n (show ¬ (170 = 141 ∧ i = 60) by omega), eσ6, dk_up_n (show ¬ (170 = 141 ∧ i = 59) by omega), eσ5, dk_up_n (show ¬ (170 = 141 ∧ i = 58) by omega), eσ4, dk_up_n (show ¬ (170 = 141 ∧ i = 57) by omega), eσ3, dk_up_n (show ¬ (170 = 141 ∧ i = 61) by omega), eσ2, dk_up_n (show ¬ (170 = 141 ∧ i = 56) by omega), eσ1, dk_up_n (show ¬ (170 = 141 ∧ i = 55) by omega)]
                obtain ⟨v380, rfl, hfσ377, hpr378⟩ := hr378
                have hsσ377 : σ47c = σ377 := (funext (fun k => funext (fun j => hfσ377 k j not_false))).symm
                subst hsσ377
                rcases hpr378 with ⟨rfl, hpr378⟩ | rfl
                · skip
                  refine dk_if_eq (tgt := 217) (pc' := 125) hE dX11_ask_122 (by decide) rfl (fun hc381 => absurd hc381 (by decide)) (fun hc381 => ?_)
                  refine dk_iload (pc' := 127) hE dX11_ask_125 rfl rfl ?_
                  refine dk_iconst (pc' := 128) hE dX11_ask_127 (by decide) rfl ?_
                  refine dk_icmp_ge (tgt := 134) (pc' := 131) hE dX11_ask_128 (by decide) rfl (fun hc382 => ?_) (fun hc382 => ?_)
                  · skip
                    refine dk_aload_n (pc' := 135) hE dX11_ask_134 rfl rfl rfl ?_
                    refine dk_iload (pc' := 137) hE dX11_ask_135 rfl rfl ?_
                    refine dk_aload_n (pc' := 138) hE dX11_ask_137 rfl rfl rfl ?_
                    refine gf_11_60 (pc' := 141) hE fl_X11_452 dX11_ask_138 is_141 rfl (fun v383 hv383 htv383 hbv383 => ?_)
                    refine dk_icmp_ge (tgt := 149) (pc' := 144) hE dX11_ask_141 (by decide) rfl (fun hc384 => ?_) (fun hc384 => ?_)
                    · skip
                      refine dk_aload_n (pc' := 150) hE dX11_ask_149 rfl rfl rfl ?_
                      refine gf_11_60 (pc' := 153) hE fl_X11_452 dX11_ask_150 is_141 rfl (fun v385 hv385 htv385 hbv385 => ?_)
                      have hq385 : v383 = v385 := (show v385 = v383 by rw [hv385, hv383]).symm
                      subst hq385
                      clear htv385 hbv385
                      refine pf_11_60 (pc' := 156) hE fl_X11_452 dX11_ask_153 is_141 trivial rfl (fun σ386 eσ386 => ?_)
                      refine dk_aload_n (pc' := 157) hE dX11_ask_156 rfl rfl rfl ?_
                      refine gf_11_48 (pc' := 160) (w := 172) hE fl_X11_107 dX11_ask_157 is_141 rfl rfl ?_
                      refine dk_iload (pc' := 162) hE dX11_ask_160 rfl rfl ?_
                      refine ga_100 (pc' := 163) hE dX11_ask_162 is_172 (by omega) rfl (fun v387 hv387 htv387 hbv387 => ?_)
                      have hq387 : v109 = v387 := (show v387 = v109 by rw [hv387, eσ386, dk_up_n (show ¬ (172 = 141 ∧ i = 60) by omega), hv109]).symm
                      subst hq387
                      clear htv387 hbv387
                      refine dk_iload_n (pc' := 164) hE dX11_ask_163 rfl rfl rfl ?_
                      refine dk_icmp_ne (tgt := 189) (pc' := 167) hE dX11_ask_164 (by decide) rfl (fun hc388 => ?_) (fun hc388 => ?_)
                      · skip
                        refine dk_iload (pc' := 191) hE dX11_ask_189 rfl rfl ?_
                        refine dk_bipush (pc' := 193) hE dX11_ask_191 (by decide) rfl ?_
                        refine dk_icmp_gt (tgt := 217) (pc' := 196) hE dX11_ask_193 (by decide) rfl (fun hc389 => ?_) (fun hc389 => ?_)
                        · skip
                          obtain ⟨v390, hv390⟩ : ∃ z : Int, z = i + 1 := ⟨_, rfl⟩
                          refine dk_iinc (pc' := 220) (ls' := [(4, 141), (0, b), (0, p), (0, d), (0, k), (0, v14), (0, v390), (0, v14)]) hE dX11_ask_217 rfl hv390.symm (by omega) rfl (by decide) rfl ?_
                          refine dk_goto (tgt := 47) hE dX11_ask_220 (by decide) ?_
                          refine dk_drop (ls' := [(4, 141), (0, b), (0, p), (0, d), (0, k), (0, v14), (0, v390), (9, 0)]) [true, true, true, true, true, true, true, false] rfl ?_
                          exact ih47 v14 v390 σ386 (by omega) (fun k_ j_ h_ => by rw [eσ386, dk_up_n (show ¬ (k_ = 141 ∧ j_ = 60) from fun q_ => h_ (Or.inr (Or.inr (Or.inr (q_))))), hF47 k_ j_ (fun w_ => h_ (w_.elim (fun x0_ => Or.inl (x0_)) (fun y0_ => y0_.elim (fun x1_ => Or.inr (Or.inl (x1_))) (fun y1_ => y1_.elim (fun x2_ => Or.inr (Or.inr (Or.inl (x2_)))) (fun y2_ => Or.inr (Or.inr (Or.inr (y2_))))))))]) (by omega)
                        · skip
                          refine dk_aload_n (pc' := 197) hE dX11_ask_196 rfl rfl rfl ?_
                          refine dk_dup (pc' := 198) hE dX11_ask_197 (show (4 : Nat) ≠ 3 by decide) rfl ?_
                          refine gf_11_59 (pc' := 201) hE fl_X11_449 dX11_ask_198 is_141 rfl (fun v391 hv391 htv391 hbv391 => ?_)
                          refine dk_aload_n (pc' := 202) hE dX11_ask_201 rfl rfl rfl ?_
                          refine dk_aload_n (pc' := 203) hE dX11_ask_202 rfl rfl rfl ?_
                          refine gf_11_48 (pc' := 206) (w := 172) hE fl_X11_107 dX11_ask_203 is_141 rfl rfl ?_
                          refine dk_iload (pc' := 208) hE dX11_ask_206 rfl rfl ?_
                          refine ga_100 (pc' := 209) hE dX11_ask_208 is_172 (by omega) rfl (fun v392 hv392 htv392 hbv392 => ?_)
                          have hq392 : v109 = v392 := (show v392 = v109 by rw [hv392, hv387]).symm
                          subst hq392
                          clear htv392 hbv392
                          have gv109 := hG.1 i (by omega) (by omega)
                          refine dk_iconst (pc' := 210) hE dX11_ask_209 (by decide) rfl ?_
                          refine dk_cV (pc' := 213) (as := [(0, v109), (0, 0)]) hE lk_X11_362 (ct_X11_loadOf l G hGd v109 0) dX11_ask_210 rfl is_141 rfl (by decide) (Nat.le_of_ble_eq_true rfl) ⟨rfl, (by omega), (by omega)⟩ rfl (fun r394 σ393 hr394 hor394 => ?_)
                          obtain ⟨v395, rfl, hfσ393, hpr394⟩ := hr394
                          have hsσ393 : σ386 = σ393 := (funext (fun k => funext (fun j => hfσ393 k j not_false))).symm
                          subst hsσ393
                          refine dk_iaddW (pc' := 214) hE dX11_ask_213 rfl (fun v396 hv396 _ => ?_)
                          refine pf_11_59 (pc' := 217) hE fl_X11_449 dX11_ask_214 is_141 trivial rfl (fun σ397 eσ397 => ?_)
                          obtain ⟨v398, hv398⟩ : ∃ z : Int, z = i + 1 := ⟨_, rfl⟩
                          refine dk_iinc (pc' := 220) (ls' := [(4, 141), (0, b), (0, p), (0, d), (0, k), (0, v14), (0, v398), (0, v14)]) hE dX11_ask_217 rfl hv398.symm (by omega) rfl (by decide) rfl ?_
                          refine dk_goto (tgt := 47) hE dX11_ask_220 (by decide) ?_
                          refine dk_drop (ls' := [(4, 141), (0, b), (0, p), (0, d), (0, k), (0, v14), (0, v398), (9, 0)]) [true, true, true, true, true, true, true, false] rfl ?_
                          exact ih47 v14 v398 σ397 (by omega) (fun k_ j_ h_ => by rw [eσ397, dk_up_n (show ¬ (k_ = 141 ∧ j_ = 59) from fun q_ => h_ (Or.inr (Or.inr (Or.inl (q_))))), eσ386, dk_up_n (show ¬ (k_ = 141 ∧ j_ = 60) from fun q_ => h_ (Or.inr (Or.inr (Or.inr (q_))))), hF47 k_ j_ (fun w_ => h_ (w_.elim (fun x0_ => Or.inl (x0_)) (fun y0_ => y0_.elim (fun x1_ => Or.inr (Or.inl (x1_))) (fun y1_ => y1_.elim (fun x2_ => Or.inr (Or.inr (Or.inl (x2_)))) (fun y2_ => Or.inr (Or.inr (Or.inr (y2_))))))))]) (by omega)
                      · skip
                        refine dk_aload_n (pc' := 168) hE dX11_ask_167 rfl rfl rfl ?_
                        refine dk_iload (pc' := 170) hE dX11_ask_168 rfl rfl ?_
                        refine dk_aload_n (pc' := 171) hE dX11_ask_170 rfl rfl rfl ?_
                        refine gf_11_58 (pc' := 174) hE fl_X11_446 dX11_ask_171 is_141 rfl (fun v399 hv399 htv399 hbv399 => ?_)
                        refine dk_icmp_ge (tgt := 182) (pc' := 177) hE dX11_ask_174 (by decide) rfl (fun hc400 => ?_) (fun hc400 => ?_)
                        · skip
                          refine dk_aload_n (pc' := 183) hE dX11_ask_182 rfl rfl rfl ?_
                          refine gf_11_58 (pc' := 186) hE fl_X11_446 dX11_ask_183 is_141 rfl (fun v401 hv401 htv401 hbv401 => ?_)
                          have hq401 : v399 = v401 := (show v401 = v399 by rw [hv401, hv399]).symm
                          subst hq401
                          clear htv401 hbv401
                          refine pf_11_58 (pc' := 189) hE fl_X11_446 dX11_ask_186 is_141 trivial rfl (fun σ402 eσ402 => ?_)
                          refine dk_iload (pc' := 191) hE dX11_ask_189 rfl rfl ?_
                          refine dk_bipush (pc' := 193) hE dX11_ask_191 (by decide) rfl ?_
                          refine dk_icmp_gt (tgt := 217) (pc' := 196) hE dX11_ask_193 (by decide) rfl (fun hc403 => ?_) (fun hc403 => ?_)
                          · skip
                            obtain ⟨v404, hv404⟩ : ∃ z : Int, z = i + 1 := ⟨_, rfl⟩
                            refine dk_iinc (pc' := 220) (ls' := [(4, 141), (0, b), (0, p), (0, d), (0, k), (0, v14), (0, v404), (0, v14)]) hE dX11_ask_217 rfl hv404.symm (by omega) rfl (by decide) rfl ?_
                            refine dk_goto (tgt := 47) hE dX11_ask_220 (by decide) ?_
                            refine dk_drop (ls' := [(4, 141), (0, b), (0, p), (0, d), (0, k), (0, v14), (0, v404), (9, 0)]) [true, true, true, true, true, true, true, false] rfl ?_
                            exact ih47 v14 v404 σ402 (by omega) (fun k_ j_ h_ => by rw [eσ402, dk_up_n (show ¬ (k_ = 141 ∧ j_ = 58) from fun q_ => h_ (Or.inr (Or.inl (q_)))), eσ386, dk_up_n (show ¬ (k_ = 141 ∧ j_ = 60) from fun q_ => h_ (Or.inr (Or.inr (Or.inr (q_))))), hF47 k_ j_ (fun w_ => h_ (w_.elim (fun x0_ => Or.inl (x0_)) (fun y0_ => y0_.elim (fun x1_ => Or.inr (Or.inl (x1_))) (fun y1_ => y1_.elim (fun x2_ => Or.inr (Or.inr (Or.inl (x2_)))) (fun y2_ => Or.inr (Or.inr (Or.inr (y2_))))))))]) (by omega)
                          · skip
                            refine dk_aload_n (pc' := 197) hE dX11_ask_196 rfl rfl rfl ?_
                            refine dk_dup (pc' := 198) hE dX11_ask_197 (show (4 : Nat) ≠ 3 by decide) rfl ?_
                            refine gf_11_59 (pc' := 201) hE fl_X11_449 dX11_ask_198 is_141 rfl (fun v405 hv405 htv405 hbv405 => ?_)
                            refine dk_aload_n (pc' := 202) hE dX11_ask_201 rfl rfl rfl ?_
                            refine dk_aload_n (pc' := 203) hE dX11_ask_202 rfl rfl rfl ?_
                            refine gf_11_48 (pc' := 206) (w := 172) hE fl_X11_107 dX11_ask_203 is_141 rfl rfl ?_
                            refine dk_iload (pc' := 208) hE dX11_ask_206 rfl rfl ?_
                            refine ga_100 (pc' := 209) hE dX11_ask_208 is_172 (by omega) rfl (fun v406 hv406 htv406 hbv406 => ?_)
                            have hq406 : v109 = v406 := (show v406 = v109 by rw [hv406, eσ402, dk_up_n (show ¬ (172 = 141 ∧ i = 58) by omega), hv387]).symm
                            subst hq406
                            clear htv406 hbv406
                            have gv109 := hG.1 i (by omega) (by omega)
                            refine dk_iconst (pc' := 210) hE dX11_ask_209 (by decide) rfl ?_
                            refine dk_cV (pc' := 213) (as := [(0, v109), (0, 0)]) hE lk_X11_362 (ct_X11_loadOf l G hGd v109 0) dX11_ask_210 rfl is_141 rfl (by decide) (Nat.le_of_ble_eq_true rfl) ⟨rfl, (by omega), (by omega)⟩ rfl (fun r408 σ407 hr408 hor408 => ?_)
                            obtain ⟨v409, rfl, hfσ407, hpr408⟩ := hr408
                            have hsσ407 : σ402 = σ407 := (funext (fun k => funext (fun j => hfσ407 k j not_false))).symm
                            subst hsσ407
                            refine dk_iaddW (pc' := 214) hE dX11_ask_213 rfl (fun v410 hv410 _ => ?_)
                            refine pf_11_59 (pc' := 217) hE fl_X11_449 dX11_ask_214 is_141 trivial rfl (fun σ411 eσ411 => ?_)
                            obtain ⟨v412, hv412⟩ : ∃ z : Int, z = i + 1 := ⟨_, rfl⟩
                            refine dk_iinc (pc' := 220) (ls' := [(4, 141), (0, b), (0, p), (0, d), (0, k), (0, v14), (0, v412), (0, v14)]) hE dX11_ask_217 rfl hv412.symm (by omega) rfl (by decide) rfl ?_
                            refine dk_goto (tgt := 47) hE dX11_ask_220 (by decide) ?_
                            refine dk_drop (ls' := [(4, 141), (0, b), (0, p), (0, d), (0, k), (0, v14), (0, v412), (9, 0)]) [true, true, true, true, true, true, true, false] rfl ?_
                            exact ih47 v14 v412 σ411 (by omega) (fun k_ j_ h_ => by rw [eσ411, dk_up_n (show ¬ (k_ = 141 ∧ j_ = 59) from fun q_ => h_ (Or.inr (Or.inr (Or.inl (q_))))), eσ402, dk_up_n (show ¬ (k_ = 141 ∧ j_ = 58) from fun q_ => h_ (Or.inr (Or.inl (q_)))), eσ386, dk_up_n (show ¬ (k_ = 141 ∧ j_ = 60) from fun q_ => h_ (Or.inr (Or.inr (Or.inr (q_))))), hF47 k_ j_ (fun w_ => h_ (w_.elim (fun x0_ => Or.inl (x0_)) (fun y0_ => y0_.elim (fun x1_ => Or.inr (Or.inl (x1_))) (fun y1_ => y1_.elim (fun x2_ => Or.inr (Or.inr (Or.inl (x2_)))) (fun y2_ => Or.inr (Or.inr (Or.inr (y2_))))))))]) (by omega)
                        · skip
                          refine dk_iload (pc' := 179) hE dX11_ask_177 rfl rfl ?_
                          refine dk_goto (tgt := 186) hE dX11_ask_179 (by decide) ?_
                          refine pf_11_58 (pc' := 189) hE fl_X11_446 dX11_ask_186 is_141 trivial rfl (fun σ413 eσ413 => ?_)
                          refine dk_iload (pc' := 191) hE dX11_ask_189 rfl rfl ?_
                          refine dk_bipush (pc' := 193) hE dX11_ask_191 (by decide) rfl ?_
                          refine dk_icmp_gt (tgt := 217) (pc' := 196) hE dX11_ask_193 (by decide) rfl (fun hc414 => ?_) (fun hc414 => ?_)
                          · skip
                            obtain ⟨v415, hv415⟩ : ∃ z : Int, z = i + 1 := ⟨_, rfl⟩
                            refine dk_iinc (pc' := 220) (ls' := [(4, 141), (0, b), (0, p), (0, d), (0, k), (0, v14), (0, v415), (0, v14)]) hE dX11_ask_217 rfl hv415.symm (by omega) rfl (by decide) rfl ?_
                            refine dk_goto (tgt := 47) hE dX11_ask_220 (by decide) ?_
                            refine dk_drop (ls' := [(4, 141), (0, b), (0, p), (0, d), (0, k), (0, v14), (0, v415), (9, 0)]) [true, true, true, true, true, true, true, false] rfl ?_
                            exact ih47 v14 v415 σ413 (by omega) (fun k_ j_ h_ => by rw [eσ413, dk_up_n (show ¬ (k_ = 141 ∧ j_ = 58) from fun q_ => h_ (Or.inr (Or.inl (q_)))), eσ386, dk_up_n (show ¬ (k_ = 141 ∧ j_ = 60) from fun q_ => h_ (Or.inr (Or.inr (Or.inr (q_))))), hF47 k_ j_ (fun w_ => h_ (w_.elim (fun x0_ => Or.inl (x0_)) (fun y0_ => y0_.elim (fun x1_ => Or.inr (Or.inl (x1_))) (fun y1_ => y1_.elim (fun x2_ => Or.inr (Or.inr (Or.inl (x2_)))) (fun y2_ => Or.inr (Or.inr (Or.inr (y2_))))))))]) (by omega)
                          · skip
                            refine dk_aload_n (pc' := 197) hE dX11_ask_196 rfl rfl rfl ?_
                            refine dk_dup (pc' := 198) hE dX11_ask_197 (show (4 : Nat) ≠ 3 by decide) rfl ?_
                            refine gf_11_59 (pc' := 201) hE fl_X11_449 dX11_ask_198 is_141 rfl (fun v416 hv416 htv416 hbv416 => ?_)
                            refine dk_aload_n (pc' := 202) hE dX11_ask_201 rfl rfl rfl ?_
                            refine dk_aload_n (pc' := 203) hE dX11_ask_202 rfl rfl rfl ?_
                            refine gf_11_48 (pc' := 206) (w := 172) hE fl_X11_107 dX11_ask_203 is_141 rfl rfl ?_
                            refine dk_iload (pc' := 208) hE dX11_ask_206 rfl rfl ?_
                            refine ga_100 (pc' := 209) hE dX11_ask_208 is_172 (by omega) rfl (fun v417 hv417 htv417 hbv417 => ?_)
                            have hq417 : v109 = v417 := (show v417 = v109 by rw [hv417, eσ413, dk_up_n (show ¬ (172 = 141 ∧ i = 58) by omega), hv387]).symm
                            subst hq417
                            clear htv417 hbv417
                            have gv109 := hG.1 i (by omega) (by omega)
                            refine dk_iconst (pc' := 210) hE dX11_ask_209 (by decide) rfl ?_
                            refine dk_cV (pc' := 213) (as := [(0, v109), (0, 0)]) hE lk_X11_362 (ct_X11_loadOf l G hGd v109 0) dX11_ask_210 rfl is_141 rfl (by decide) (Nat.le_of_ble_eq_true rfl) ⟨rfl, (by omega), (by omega)⟩ rfl (fun r419 σ418 hr419 hor419 => ?_)
                            obtain ⟨v420, rfl, hfσ418, hpr419⟩ := hr419
                            have hsσ418 : σ413 = σ418 := (funext (fun k => funext (fun j => hfσ418 k j not_false))).symm
                            subst hsσ418
                            refine dk_iaddW (pc' := 214) hE dX11_ask_213 rfl (fun v421 hv421 _ => ?_)
                            refine pf_11_59 (pc' := 217) hE fl_X11_449 dX11_ask_214 is_141 trivial rfl (fun σ422 eσ422 => ?_)
                            obtain ⟨v423, hv423⟩ : ∃ z : Int, z = i + 1 := ⟨_, rfl⟩
                            refine dk_iinc (pc' := 220) (ls' := [(4, 141), (0, b), (0, p), (0, d), (0, k), (0, v14), (0, v423), (0, v14)]) hE dX11_ask_217 rfl hv423.symm (by omega) rfl (by decide) rfl ?_
                            refine dk_goto (tgt := 47) hE dX11_ask_220 (by decide) ?_
                            refine dk_drop (ls' := [(4, 141), (0, b), (0, p), (0, d), (0, k), (0, v14), (0, v423), (9, 0)]) [true, true, true, true, true, true, true, false] rfl ?_
                            exact ih47 v14 v423 σ422 (by omega) (fun k_ j_ h_ => by rw [eσ422, dk_up_n (show ¬ (k_ = 141 ∧ j_ = 59) from fun q_ => h_ (Or.inr (Or.inr (Or.inl (q_))))), eσ413, dk_up_n (show ¬ (k_ = 141 ∧ j_ = 58) from fun q_ => h_ (Or.inr (Or.inl (q_)))), eσ386, dk_up_n (show ¬ (k_ = 141 ∧ j_ = 60) from fun q_ => h_ (Or.inr (Or.inr (Or.inr (q_))))), hF47 k_ j_ (fun w_ => h_ (w_.elim (fun x0_ => Or.inl (x0_)) (fun y0_ => y0_.elim (fun x1_ => Or.inr (Or.inl (x1_))) (fun y1_ => y1_.elim (fun x2_ => Or.inr (Or.inr (Or.inl (x2_)))) (fun y2_ => Or.inr (Or.inr (Or.inr (y2_))))))))]) (by omega)
                    · skip
                      refine dk_iload (pc' := 146) hE dX11_ask_144 rfl rfl ?_
                      refine dk_goto (tgt := 153) hE dX11_ask_146 (by decide) ?_
                      refine pf_11_60 (pc' := 156) hE fl_X11_452 dX11_ask_153 is_141 trivial rfl (fun σ424 eσ424 => ?_)
                      refine dk_aload_n (pc' := 157) hE dX11_ask_156 rfl rfl rfl ?_
                      refine gf_11_48 (pc' := 160) (w := 172) hE fl_X11_107 dX11_ask_157 is_141 rfl rfl ?_
                      refine dk_iload (pc' := 162) hE dX11_ask_160 rfl rfl ?_
                      refine ga_100 (pc' := 163) hE dX11_ask_162 is_172 (by omega) rfl (fun v425 hv425 htv425 hbv425 => ?_)
                      have hq425 : v109 = v425 := (show v425 = v109 by rw [hv425, eσ424, dk_up_n (show ¬ (172 = 141 ∧ i = 60) by omega), hv109]).symm
                      subst hq425
                      clear htv425 hbv425
                      refine dk_iload_n (pc' := 164) hE dX11_ask_163 rfl rfl rfl ?_
                      refine dk_icmp_ne (tgt := 189) (pc' := 167) hE dX11_ask_164 (by decide) rfl (fun hc426 => ?_) (fun hc426 => ?_)
                      · skip
                        refine dk_iload (pc' := 191) hE dX11_ask_189 rfl rfl ?_
                        refine dk_bipush (pc' := 193) hE dX11_ask_191 (by decide) rfl ?_
                        refine dk_icmp_gt (tgt := 217) (pc' := 196) hE dX11_ask_193 (by decide) rfl (fun hc427 => ?_) (fun hc427 => ?_)
                        · skip
                          obtain ⟨v428, hv428⟩ : ∃ z : Int, z = i + 1 := ⟨_, rfl⟩
                          refine dk_iinc (pc' := 220) (ls' := [(4, 141), (0, b), (0, p), (0, d), (0, k), (0, v14), (0, v428), (0, v14)]) hE dX11_ask_217 rfl hv428.symm (by omega) rfl (by decide) rfl ?_
                          refine dk_goto (tgt := 47) hE dX11_ask_220 (by decide) ?_
                          refine dk_drop (ls' := [(4, 141), (0, b), (0, p), (0, d), (0, k), (0, v14), (0, v428), (9, 0)]) [true, true, true, true, true, true, true, false] rfl ?_
                          exact ih47 v14 v428 σ424 (by omega) (fun k_ j_ h_ => by rw [eσ424, dk_up_n (show ¬ (k_ = 141 ∧ j_ = 60) from fun q_ => h_ (Or.inr (Or.inr (Or.inr (q_))))), hF47 k_ j_ (fun w_ => h_ (w_.elim (fun x0_ => Or.inl (x0_)) (fun y0_ => y0_.elim (fun x1_ => Or.inr (Or.inl (x1_))) (fun y1_ => y1_.elim (fun x2_ => Or.inr (Or.inr (Or.inl (x2_)))) (fun y2_ => Or.inr (Or.inr (Or.inr (y2_))))))))]) (by omega)
                        · skip
                          refine dk_aload_n (pc' := 197) hE dX11_ask_196 rfl rfl rfl ?_
                          refine dk_dup (pc' := 198) hE dX11_ask_197 (show (4 : Nat) ≠ 3 by decide) rfl ?_
                          refine gf_11_59 (pc' := 201) hE fl_X11_449 dX11_ask_198 is_141 rfl (fun v429 hv429 htv429 hbv429 => ?_)
                          refine dk_aload_n (pc' := 202) hE dX11_ask_201 rfl rfl rfl ?_
                          refine dk_aload_n (pc' := 203) hE dX11_ask_202 rfl rfl rfl ?_
                          refine gf_11_48 (pc' := 206) (w := 172) hE fl_X11_107 dX11_ask_203 is_141 rfl rfl ?_
                          refine dk_iload (pc' := 208) hE dX11_ask_206 rfl rfl ?_
                          refine ga_100 (pc' := 209) hE dX11_ask_208 is_172 (by omega) rfl (fun v430 hv430 htv430 hbv430 => ?_)
                          have hq430 : v109 = v430 := (show v430 = v109 by rw [hv430, hv425]).symm
                          subst hq430
                          clear htv430 hbv430
                          have gv109 := hG.1 i (by omega) (by omega)
                          refine dk_iconst (pc' := 210) hE dX11_ask_209 (by decide) rfl ?_
                          refine dk_cV (pc' := 213) (as := [(0, v109), (0, 0)]) hE lk_X11_362 (ct_X11_loadOf l G hGd v109 0) dX11_ask_210 rfl is_141 rfl (by decide) (Nat.le_of_ble_eq_true rfl) ⟨rfl, (by omega), (by omega)⟩ rfl (fun r432 σ431 hr432 hor432 => ?_)
                          obtain ⟨v433, rfl, hfσ431, hpr432⟩ := hr432
                          have hsσ431 : σ424 = σ431 := (funext (fun k => funext (fun j => hfσ431 k j not_false))).symm
                          subst hsσ431
                          refine dk_iaddW (pc' := 214) hE dX11_ask_213 rfl (fun v434 hv434 _ => ?_)
                          refine pf_11_59 (pc' := 217) hE fl_X11_449 dX11_ask_214 is_141 trivial rfl (fun σ435 eσ435 => ?_)
                          obtain ⟨v436, hv436⟩ : ∃ z : Int, z = i + 1 := ⟨_, rfl⟩
                          refine dk_iinc (pc' := 220) (ls' := [(4, 141), (0, b), (0, p), (0, d), (0, k), (0, v14), (0, v436), (0, v14)]) hE dX11_ask_217 rfl hv436.symm (by omega) rfl (by decide) rfl ?_
                          refine dk_goto (tgt := 47) hE dX11_ask_220 (by decide) ?_
                          refine dk_drop (ls' := [(4, 141), (0, b), (0, p), (0, d), (0, k), (0, v14), (0, v436), (9, 0)]) [true, true, true, true, true, true, true, false] rfl ?_
                          exact ih47 v14 v436 σ435 (by omega) (fun k_ j_ h_ => by rw [eσ435, dk_up_n (show ¬ (k_ = 141 ∧ j_ = 59) from fun q_ => h_ (Or.inr (Or.inr (Or.inl (q_))))), eσ424, dk_up_n (show ¬ (k_ = 141 ∧ j_ = 60) from fun q_ => h_ (Or.inr (Or.inr (Or.inr (q_))))), hF47 k_ j_ (fun w_ => h_ (w_.elim (fun x0_ => Or.inl (x0_)) (fun y0_ => y0_.elim (fun x1_ => Or.inr (Or.inl (x1_))) (fun y1_ => y1_.elim (fun x2_ => Or.inr (Or.inr (Or.inl (x2_)))) (fun y2_ => Or.inr (Or.inr (Or.inr (y2_))))))))]) (by omega)
                      · skip
                        refine dk_aload_n (pc' := 168) hE dX11_ask_167 rfl rfl rfl ?_
                        refine dk_iload (pc' := 170) hE dX11_ask_168 rfl rfl ?_
                        refine dk_aload_n (pc' := 171) hE dX11_ask_170 rfl rfl rfl ?_
                        refine gf_11_58 (pc' := 174) hE fl_X11_446 dX11_ask_171 is_141 rfl (fun v437 hv437 htv437 hbv437 => ?_)
                        refine dk_icmp_ge (tgt := 182) (pc' := 177) hE dX11_ask_174 (by decide) rfl (fun hc438 => ?_) (fun hc438 => ?_)
                        · skip
                          refine dk_aload_n (pc' := 183) hE dX11_ask_182 rfl rfl rfl ?_
                          refine gf_11_58 (pc' := 186) hE fl_X11_446 dX11_ask_183 is_141 rfl (fun v439 hv439 htv439 hbv439 => ?_)
                          have hq439 : v437 = v439 := (show v439 = v437 by rw [hv439, hv437]).symm
                          subst hq439
                          clear htv439 hbv439
                          refine pf_11_58 (pc' := 189) hE fl_X11_446 dX11_ask_186 is_141 trivial rfl (fun σ440 eσ440 => ?_)
                          refine dk_iload (pc' := 191) hE dX11_ask_189 rfl rfl ?_
                          refine dk_bipush (pc' := 193) hE dX11_ask_191 (by decide) rfl ?_
                          refine dk_icmp_gt (tgt := 217) (pc' := 196) hE dX11_ask_193 (by decide) rfl (fun hc441 => ?_) (fun hc441 => ?_)
                          · skip
                            obtain ⟨v442, hv442⟩ : ∃ z : Int, z = i + 1 := ⟨_, rfl⟩
                            refine dk_iinc (pc' := 220) (ls' := [(4, 141), (0, b), (0, p), (0, d), (0, k), (0, v14), (0, v442), (0, v14)]) hE dX11_ask_217 rfl hv442.symm (by omega) rfl (by decide) rfl ?_
                            refine dk_goto (tgt := 47) hE dX11_ask_220 (by decide) ?_
                            refine dk_drop (ls' := [(4, 141), (0, b), (0, p), (0, d), (0, k), (0, v14), (0, v442), (9, 0)]) [true, true, true, true, true, true, true, false] rfl ?_
                            exact ih47 v14 v442 σ440 (by omega) (fun k_ j_ h_ => by rw [eσ440, dk_up_n (show ¬ (k_ = 141 ∧ j_ = 58) from fun q_ => h_ (Or.inr (Or.inl (q_)))), eσ424, dk_up_n (show ¬ (k_ = 141 ∧ j_ = 60) from fun q_ => h_ (Or.inr (Or.inr (Or.inr (q_))))), hF47 k_ j_ (fun w_ => h_ (w_.elim (fun x0_ => Or.inl (x0_)) (fun y0_ => y0_.elim (fun x1_ => Or.inr (Or.inl (x1_))) (fun y1_ => y1_.elim (fun x2_ => Or.inr (Or.inr (Or.inl (x2_)))) (fun y2_ => Or.inr (Or.inr (Or.inr (y2_))))))))]) (by omega)
                          · skip
                            refine dk_aload_n (pc' := 197) hE dX11_ask_196 rfl rfl rfl ?_
                            refine dk_dup (pc' := 198) hE dX11_ask_197 (show (4 : Nat) ≠ 3 by decide) rfl ?_
                            refine gf_11_59 (pc' := 201) hE fl_X11_449 dX11_ask_198 is_141 rfl (fun v443 hv443 htv443 hbv443 => ?_)
                            refine dk_aload_n (pc' := 202) hE dX11_ask_201 rfl rfl rfl ?_
                            refine dk_aload_n (pc' := 203) hE dX11_ask_202 rfl rfl rfl ?_
                            refine gf_11_48 (pc' := 206) (w := 172) hE fl_X11_107 dX11_ask_203 is_141 rfl rfl ?_
                            refine dk_iload (pc' := 208) hE dX11_ask_206 rfl rfl ?_
                            refine ga_100 (pc' := 209) hE dX11_ask_208 is_172 (by omega) rfl (fun v444 hv444 htv444 hbv444 => ?_)
                            have hq444 : v109 = v444 := (show v444 = v109 by rw [hv444, eσ440, dk_up_n (show ¬ (172 = 141 ∧ i = 58) by omega), hv425]).symm
                            subst hq444
                            clear htv444 hbv444
                            have gv109 := hG.1 i (by omega) (by omega)
                            refine dk_iconst (pc' := 210) hE dX11_ask_209 (by decide) rfl ?_
                            refine dk_cV (pc' := 213) (as := [(0, v109), (0, 0)]) hE lk_X11_362 (ct_X11_loadOf l G hGd v109 0) dX11_ask_210 rfl is_141 rfl (by decide) (Nat.le_of_ble_eq_true rfl) ⟨rfl, (by omega), (by omega)⟩ rfl (fun r446 σ445 hr446 hor446 => ?_)
                            obtain ⟨v447, rfl, hfσ445, hpr446⟩ := hr446
                            have hsσ445 : σ440 = σ445 := (funext (fun k => funext (fun j => hfσ445 k j not_false))).symm
                            subst hsσ445
                            refine dk_iaddW (pc' := 214) hE dX11_ask_213 rfl (fun v448 hv448 _ => ?_)
                            refine pf_11_59 (pc' := 217) hE fl_X11_449 dX11_ask_214 is_141 trivial rfl (fun σ449 eσ449 => ?_)
                            obtain ⟨v450, hv450⟩ : ∃ z : Int, z = i + 1 := ⟨_, rfl⟩
                            refine dk_iinc (pc' := 220) (ls' := [(4, 141), (0, b), (0, p), (0, d), (0, k), (0, v14), (0, v450), (0, v14)]) hE dX11_ask_217 rfl hv450.symm (by omega) rfl (by decide) rfl ?_
                            refine dk_goto (tgt := 47) hE dX11_ask_220 (by decide) ?_
                            refine dk_drop (ls' := [(4, 141), (0, b), (0, p), (0, d), (0, k), (0, v14), (0, v450), (9, 0)]) [true, true, true, true, true, true, true, false] rfl ?_
                            exact ih47 v14 v450 σ449 (by omega) (fun k_ j_ h_ => by rw [eσ449, dk_up_n (show ¬ (k_ = 141 ∧ j_ = 59) from fun q_ => h_ (Or.inr (Or.inr (Or.inl (q_))))), eσ440, dk_up_n (show ¬ (k_ = 141 ∧ j_ = 58) from fun q_ => h_ (Or.inr (Or.inl (q_)))), eσ424, dk_up_n (show ¬ (k_ = 141 ∧ j_ = 60) from fun q_ => h_ (Or.inr (Or.inr (Or.inr (q_))))), hF47 k_ j_ (fun w_ => h_ (w_.elim (fun x0_ => Or.inl (x0_)) (fun y0_ => y0_.elim (fun x1_ => Or.inr (Or.inl (x1_))) (fun y1_ => y1_.elim (fun x2_ => Or.inr (Or.inr (Or.inl (x2_)))) (fun y2_ => Or.inr (Or.inr (Or.inr (y2_))))))))]) (by omega)
                        · skip
                          refine dk_iload (pc' := 179) hE dX11_ask_177 rfl rfl ?_
                          refine dk_goto (tgt := 186) hE dX11_ask_179 (by decide) ?_
                          refine pf_11_58 (pc' := 189) hE fl_X11_446 dX11_ask_186 is_141 trivial rfl (fun σ451 eσ451 => ?_)
                          refine dk_iload (pc' := 191) hE dX11_ask_189 rfl rfl ?_
                          refine dk_bipush (pc' := 193) hE dX11_ask_191 (by decide) rfl ?_
                          refine dk_icmp_gt (tgt := 217) (pc' := 196) hE dX11_ask_193 (by decide) rfl (fun hc452 => ?_) (fun hc452 => ?_)
                          · skip
                            obtain ⟨v453, hv453⟩ : ∃ z : Int, z = i + 1 := ⟨_, rfl⟩
                            refine dk_iinc (pc' := 220) (ls' := [(4, 141), (0, b), (0, p), (0, d), (0, k), (0, v14), (0, v453), (0, v14)]) hE dX11_ask_217 rfl hv453.symm (by omega) rfl (by decide) rfl ?_
                            refine dk_goto (tgt := 47) hE dX11_ask_220 (by decide) ?_
                            refine dk_drop (ls' := [(4, 141), (0, b), (0, p), (0, d), (0, k), (0, v14), (0, v453), (9, 0)]) [true, true, true, true, true, true, true, false] rfl ?_
                            exact ih47 v14 v453 σ451 (by omega) (fun k_ j_ h_ => by rw [eσ451, dk_up_n (show ¬ (k_ = 141 ∧ j_ = 58) from fun q_ => h_ (Or.inr (Or.inl (q_)))), eσ424, dk_up_n (show ¬ (k_ = 141 ∧ j_ = 60) from fun q_ => h_ (Or.inr (Or.inr (Or.inr (q_))))), hF47 k_ j_ (fun w_ => h_ (w_.elim (fun x0_ => Or.inl (x0_)) (fun y0_ => y0_.elim (fun x1_ => Or.inr (Or.inl (x1_))) (fun y1_ => y1_.elim (fun x2_ => Or.inr (Or.inr (Or.inl (x2_)))) (fun y2_ => Or.inr (Or.inr (Or.inr (y2_))))))))]) (by omega)
                          · skip
                            refine dk_aload_n (pc' := 197) hE dX11_ask_196 rfl rfl rfl ?_
                            refine dk_dup (pc' := 198) hE dX11_ask_197 (show (4 : Nat) ≠ 3 by decide) rfl ?_
                            refine gf_11_59 (pc' := 201) hE fl_X11_449 dX11_ask_198 is_141 rfl (fun v454 hv454 htv454 hbv454 => ?_)
                            refine dk_aload_n (pc' := 202) hE dX11_ask_201 rfl rfl rfl ?_
                            refine dk_aload_n (pc' := 203) hE dX11_ask_202 rfl rfl rfl ?_
                            refine gf_11_48 (pc' := 206) (w := 172) hE fl_X11_107 dX11_ask_203 is_141 rfl rfl ?_
                            refine dk_iload (pc' := 208) hE dX11_ask_206 rfl rfl ?_
                            refine ga_100 (pc' := 209) hE dX11_ask_208 is_172 (by omega) rfl (fun v455 hv455 htv455 hbv455 => ?_)
                            have hq455 : v109 = v455 := (show v455 = v109 by rw [hv455, eσ451, dk_up_n (show ¬ (172 = 141 ∧ i = 58) by omega), hv425]).symm
                            subst hq455
                            clear htv455 hbv455
                            have gv109 := hG.1 i (by omega) (by omega)
                            refine dk_iconst (pc' := 210) hE dX11_ask_209 (by decide) rfl ?_
                            refine dk_cV (pc' := 213) (as := [(0, v109), (0, 0)]) hE lk_X11_362 (ct_X11_loadOf l G hGd v109 0) dX11_ask_210 rfl is_141 rfl (by decide) (Nat.le_of_ble_eq_true rfl) ⟨rfl, (by omega), (by omega)⟩ rfl (fun r457 σ456 hr457 hor457 => ?_)
                            obtain ⟨v458, rfl, hfσ456, hpr457⟩ := hr457
                            have hsσ456 : σ451 = σ456 := (funext (fun k => funext (fun j => hfσ456 k j not_false))).symm
                            subst hsσ456
                            refine dk_iaddW (pc' := 214) hE dX11_ask_213 rfl (fun v459 hv459 _ => ?_)
                            refine pf_11_59 (pc' := 217) hE fl_X11_449 dX11_ask_214 is_141 trivial rfl (fun σ460 eσ460 => ?_)
                            obtain ⟨v461, hv461⟩ : ∃ z : Int, z = i + 1 := ⟨_, rfl⟩
                            refine dk_iinc (pc' := 220) (ls' := [(4, 141), (0, b), (0, p), (0, d), (0, k), (0, v14), (0, v461), (0, v14)]) hE dX11_ask_217 rfl hv461.symm (by omega) rfl (by decide) rfl ?_
                            refine dk_goto (tgt := 47) hE dX11_ask_220 (by decide) ?_
                            refine dk_drop (ls' := [(4, 141), (0, b), (0, p), (0, d), (0, k), (0, v14), (0, v461), (9, 0)]) [true, true, true, true, true, true, true, false] rfl ?_
                            exact ih47 v14 v461 σ460 (by omega) (fun k_ j_ h_ => by rw [eσ460, dk_up_n (show ¬ (k_ = 141 ∧ j_ = 59) from fun q_ => h_ (Or.inr (Or.inr (Or.inl (q_))))), eσ451, dk_up_n (show ¬ (k_ = 141 ∧ j_ = 58) from fun q_ => h_ (Or.inr (Or.inl (q_)))), eσ424, dk_up_n (show ¬ (k_ = 141 ∧ j_ = 60) from fun q_ => h_ (Or.inr (Or.inr (Or.inr (q_))))), hF47 k_ j_ (fun w_ => h_ (w_.elim (fun x0_ => Or.inl (x0_)) (fun y0_ => y0_.elim (fun x1_ => Or.inr (Or.inl (x1_))) (fun y1_ => y1_.elim (fun x2_ => Or.inr (Or.inr (Or.inl (x2_)))) (fun y2_ => Or.inr (Or.inr (Or.inr (y2_))))))))]) (by omega)
                  · skip
                    refine dk_goto (tgt := 217) hE dX11_ask_131 (by decide) ?_
                    obtain ⟨v462, hv462⟩ : ∃ z : Int, z = i + 1 := ⟨_, rfl⟩
                    refine dk_iinc (pc' := 220) (ls' := [(4, 141), (0, b), (0, p), (0, d), (0, k), (0, v14), (0, v462), (0, v14)]) hE dX11_ask_217 rfl hv462.symm (by omega) rfl (by decide) rfl ?_
                    refine dk_goto (tgt := 47) hE dX11_ask_220 (by decide) ?_
                    refine dk_drop (ls' := [(4, 141), (0, b), (0, p), (0, d), (0, k), (0, v14), (0, v462), (9, 0)]) [true, true, true, true, true, true, true, false] rfl ?_
                    exact ih47 v14 v462 σ47c (by omega) (fun k_ j_ h_ => by rw [hF47 k_ j_ (fun w_ => h_ (w_.elim (fun x0_ => Or.inl (x0_)) (fun y0_ => y0_.elim (fun x1_ => Or.inr (Or.inl (x1_))) (fun y1_ => y1_.elim (fun x2_ => Or.inr (Or.inr (Or.inl (x2_)))) (fun y2_ => Or.inr (Or.inr (Or.inr (y2_))))))))]) (by omega)
                · skip
                  refine dk_if_eq (tgt := 217) (pc' := 125) hE dX11_ask_122 (by decide) rfl (fun hc463 => ?_) (fun hc463 => absurd hc463 (by decide))
                  obtain ⟨v464, hv464⟩ : ∃ z : Int, z = i + 1 := ⟨_, rfl⟩
                  refine dk_iinc (pc' := 220) (ls' := [(4, 141), (0, b), (0, p), (0, d), (0, k), (0, v14), (0, v464), (0, v14)]) hE dX11_ask_217 rfl hv464.symm (by omega) rfl (by decide) rfl ?_
                  refine dk_goto (tgt := 47) hE dX11_ask_220 (by decide) ?_
                  refine dk_drop (ls' := [(4, 141), (0, b), (0, p), (0, d), (0, k), (0, v14), (0, v464), (9, 0)]) [true, true, true, true, true, true, true, false] rfl ?_
                  exact ih47 v14 v464 σ47c (by omega) (fun k_ j_ h_ => by rw [hF47 k_ j_ (fun w_ => h_ (w_.elim (fun x0_ => Or.inl (x0_)) (fun y0_ => y0_.elim (fun x1_ => Or.inr (Or.inl (x1_))) (fun y1_ => y1_.elim (fun x2_ => Or.inr (Or.inr (Or.inl (x2_)))) (fun y2_ => Or.inr (Or.inr (Or.inr (y2_))))))))]) (by omega)
        · skip
          refine dk_if_eq (tgt := 112) (pc' := 80) hE dX11_ask_77 (by decide) rfl (fun hc465 => ?_) (fun hc465 => absurd hc465 (by decide))
          refine dk_aload_n (pc' := 113) hE dX11_ask_112 rfl rfl rfl ?_
          refine dk_iload (pc' := 115) hE dX11_ask_113 rfl rfl ?_
          refine dk_iconst (pc' := 116) hE dX11_ask_115 (by decide) rfl ?_
          refine dk_iload_n (pc' := 117) hE dX11_ask_116 rfl rfl rfl ?_
          refine dk_iload (pc' := 119) hE dX11_ask_117 rfl rfl ?_
          refine dk_cV (pc' := 122) (as := [(0, i), (0, 1), (0, b), (0, k)]) hE lk_X11_430 (ct_X11_isFact l G hGd i 1 b k) dX11_ask_119 rfl is_141 rfl (by decide) (Nat.le_of_ble_eq_true rfl) ⟨rfl, (by omega)⟩ rfl (fun r467 σ466 hr467 hor467 => ?_)
          have hz468 : σ47c 170 i = σ 170 i := by rw [hF47 170 i (by omega), eσ7, dk_up_n (show ¬ (170 = 141 ∧ i = 60) by omega), eσ6, dk_up_n (show ¬ (170 = 141 ∧ i = 59) by omega), eσ5, dk_up_n (show ¬ (170 = 141 ∧ i = 58) by omega), eσ4, dk_up_n (show ¬ (170 = 141 ∧ i = 57) by omega), eσ3, dk_up_n (show ¬ (170 = 141 ∧ i = 61) by omega), eσ2, dk_up_n (show ¬ (170 = 141 ∧ i = 56) by omega), eσ1, dk_up_n (show ¬ (170 = 141 ∧ i = 55) by omega)]
          obtain ⟨v469, rfl, hfσ466, hpr467⟩ := hr467
          have hsσ466 : σ47c = σ466 := (funext (fun k => funext (fun j => hfσ466 k j not_false))).symm
          subst hsσ466
          rcases hpr467 with ⟨rfl, hpr467⟩ | rfl
          · skip
            refine dk_if_eq (tgt := 217) (pc' := 125) hE dX11_ask_122 (by decide) rfl (fun hc470 => absurd hc470 (by decide)) (fun hc470 => ?_)
            refine dk_iload (pc' := 127) hE dX11_ask_125 rfl rfl ?_
            refine dk_iconst (pc' := 128) hE dX11_ask_127 (by decide) rfl ?_
            refine dk_icmp_ge (tgt := 134) (pc' := 131) hE dX11_ask_128 (by decide) rfl (fun hc471 => ?_) (fun hc471 => ?_)
            · skip
              refine dk_aload_n (pc' := 135) hE dX11_ask_134 rfl rfl rfl ?_
              refine dk_iload (pc' := 137) hE dX11_ask_135 rfl rfl ?_
              refine dk_aload_n (pc' := 138) hE dX11_ask_137 rfl rfl rfl ?_
              refine gf_11_60 (pc' := 141) hE fl_X11_452 dX11_ask_138 is_141 rfl (fun v472 hv472 htv472 hbv472 => ?_)
              refine dk_icmp_ge (tgt := 149) (pc' := 144) hE dX11_ask_141 (by decide) rfl (fun hc473 => ?_) (fun hc473 => ?_)
              · skip
                refine dk_aload_n (pc' := 150) hE dX11_ask_149 rfl rfl rfl ?_
                refine gf_11_60 (pc' := 153) hE fl_X11_452 dX11_ask_150 is_141 rfl (fun v474 hv474 htv474 hbv474 => ?_)
                have hq474 : v472 = v474 := (show v474 = v472 by rw [hv474, hv472]).symm
                subst hq474
                clear htv474 hbv474
                refine pf_11_60 (pc' := 156) hE fl_X11_452 dX11_ask_153 is_141 trivial rfl (fun σ475 eσ475 => ?_)
                refine dk_aload_n (pc' := 157) hE dX11_ask_156 rfl rfl rfl ?_
                refine gf_11_48 (pc' := 160) (w := 172) hE fl_X11_107 dX11_ask_157 is_141 rfl rfl ?_
                refine dk_iload (pc' := 162) hE dX11_ask_160 rfl rfl ?_
                refine ga_100 (pc' := 163) hE dX11_ask_162 is_172 (by omega) rfl (fun v476 hv476 htv476 hbv476 => ?_)
                have hq476 : v476 = σ 172 i := by rw [hv476, eσ475, dk_up_n (show ¬ (172 = 141 ∧ i = 60) by omega), hF47 172 i (by omega), eσ7, dk_up_n (show ¬ (172 = 141 ∧ i = 60) by omega), eσ6, dk_up_n (show ¬ (172 = 141 ∧ i = 59) by omega), eσ5, dk_up_n (show ¬ (172 = 141 ∧ i = 58) by omega), eσ4, dk_up_n (show ¬ (172 = 141 ∧ i = 57) by omega), eσ3, dk_up_n (show ¬ (172 = 141 ∧ i = 61) by omega), eσ2, dk_up_n (show ¬ (172 = 141 ∧ i = 56) by omega), eσ1, dk_up_n (show ¬ (172 = 141 ∧ i = 55) by omega)]
                refine dk_iload_n (pc' := 164) hE dX11_ask_163 rfl rfl rfl ?_
                refine dk_icmp_ne (tgt := 189) (pc' := 167) hE dX11_ask_164 (by decide) rfl (fun hc477 => ?_) (fun hc477 => ?_)
                · skip
                  refine dk_iload (pc' := 191) hE dX11_ask_189 rfl rfl ?_
                  refine dk_bipush (pc' := 193) hE dX11_ask_191 (by decide) rfl ?_
                  refine dk_icmp_gt (tgt := 217) (pc' := 196) hE dX11_ask_193 (by decide) rfl (fun hc478 => ?_) (fun hc478 => ?_)
                  · skip
                    obtain ⟨v479, hv479⟩ : ∃ z : Int, z = i + 1 := ⟨_, rfl⟩
                    refine dk_iinc (pc' := 220) (ls' := [(4, 141), (0, b), (0, p), (0, d), (0, k), (0, m), (0, v479), (0, v14)]) hE dX11_ask_217 rfl hv479.symm (by omega) rfl (by decide) rfl ?_
                    refine dk_goto (tgt := 47) hE dX11_ask_220 (by decide) ?_
                    refine dk_drop (ls' := [(4, 141), (0, b), (0, p), (0, d), (0, k), (0, m), (0, v479), (9, 0)]) [true, true, true, true, true, true, true, false] rfl ?_
                    exact ih47 m v479 σ475 (by omega) (fun k_ j_ h_ => by rw [eσ475, dk_up_n (show ¬ (k_ = 141 ∧ j_ = 60) from fun q_ => h_ (Or.inr (Or.inr (Or.inr (q_))))), hF47 k_ j_ (fun w_ => h_ (w_.elim (fun x0_ => Or.inl (x0_)) (fun y0_ => y0_.elim (fun x1_ => Or.inr (Or.inl (x1_))) (fun y1_ => y1_.elim (fun x2_ => Or.inr (Or.inr (Or.inl (x2_)))) (fun y2_ => Or.inr (Or.inr (Or.inr (y2_))))))))]) (by omega)
                  · skip
                    refine dk_aload_n (pc' := 197) hE dX11_ask_196 rfl rfl rfl ?_
                    refine dk_dup (pc' := 198) hE dX11_ask_197 (show (4 : Nat) ≠ 3 by decide) rfl ?_
                    refine gf_11_59 (pc' := 201) hE fl_X11_449 dX11_ask_198 is_141 rfl (fun v480 hv480 htv480 hbv480 => ?_)
                    refine dk_aload_n (pc' := 202) hE dX11_ask_201 rfl rfl rfl ?_
                    refine dk_aload_n (pc' := 203) hE dX11_ask_202 rfl rfl rfl ?_
                    refine gf_11_48 (pc' := 206) (w := 172) hE fl_X11_107 dX11_ask_203 is_141 rfl rfl ?_
                    refine dk_iload (pc' := 208) hE dX11_ask_206 rfl rfl ?_
                    refine ga_100 (pc' := 209) hE dX11_ask_208 is_172 (by omega) rfl (fun v481 hv481 htv481 hbv481 => ?_)
                    have hq481 : v476 = v481 := (show v481 = v476 by rw [hv481, hv476]).symm
                    subst hq481
                    clear htv481 hbv481
                    have gv476 := hG.1 i (by omega) (by omega)
                    refine dk_iconst (pc' := 210) hE dX11_ask_209 (by decide) rfl ?_
                    refine dk_cV (pc' := 213) (as := [(0, v476), (0, 0)]) hE lk_X11_362 (ct_X11_loadOf l G hGd v476 0) dX11_ask_210 rfl is_141 rfl (by decide) (Nat.le_of_ble_eq_true rfl) ⟨rfl, (by omega), (by omega)⟩ rfl (fun r483 σ482 hr483 hor483 => ?_)
                    obtain ⟨v484, rfl, hfσ482, hpr483⟩ := hr483
                    have hsσ482 : σ475 = σ482 := (funext (fun k => funext (fun j => hfσ482 k j not_false))).symm
                    subst hsσ482
                    refine dk_iaddW (pc' := 214) hE dX11_ask_213 rfl (fun v485 hv485 _ => ?_)
                    refine pf_11_59 (pc' := 217) hE fl_X11_449 dX11_ask_214 is_141 trivial rfl (fun σ486 eσ486 => ?_)
                    obtain ⟨v487, hv487⟩ : ∃ z : Int, z = i + 1 := ⟨_, rfl⟩
                    refine dk_iinc (pc' := 220) (ls' := [(4, 141), (0, b), (0, p), (0, d), (0, k), (0, m), (0, v487), (0, v14)]) hE dX11_ask_217 rfl hv487.symm (by omega) rfl (by decide) rfl ?_
                    refine dk_goto (tgt := 47) hE dX11_ask_220 (by decide) ?_
                    refine dk_drop (ls' := [(4, 141), (0, b), (0, p), (0, d), (0, k), (0, m), (0, v487), (9, 0)]) [true, true, true, true, true, true, true, false] rfl ?_
                    exact ih47 m v487 σ486 (by omega) (fun k_ j_ h_ => by rw [eσ486, dk_up_n (show ¬ (k_ = 141 ∧ j_ = 59) from fun q_ => h_ (Or.inr (Or.inr (Or.inl (q_))))), eσ475, dk_up_n (show ¬ (k_ = 141 ∧ j_ = 60) from fun q_ => h_ (Or.inr (Or.inr (Or.inr (q_))))), hF47 k_ j_ (fun w_ => h_ (w_.elim (fun x0_ => Or.inl (x0_)) (fun y0_ => y0_.elim (fun x1_ => Or.inr (Or.inl (x1_))) (fun y1_ => y1_.elim (fun x2_ => Or.inr (Or.inr (Or.inl (x2_)))) (fun y2_ => Or.inr (Or.inr (Or.inr (y2_))))))))]) (by omega)
                · skip
                  refine dk_aload_n (pc' := 168) hE dX11_ask_167 rfl rfl rfl ?_
                  refine dk_iload (pc' := 170) hE dX11_ask_168 rfl rfl ?_
                  refine dk_aload_n (pc' := 171) hE dX11_ask_170 rfl rfl rfl ?_
                  refine gf_11_58 (pc' := 174) hE fl_X11_446 dX11_ask_171 is_141 rfl (fun v488 hv488 htv488 hbv488 => ?_)
                  refine dk_icmp_ge (tgt := 182) (pc' := 177) hE dX11_ask_174 (by decide) rfl (fun hc489 => ?_) (fun hc489 => ?_)
                  · skip
                    refine dk_aload_n (pc' := 183) hE dX11_ask_182 rfl rfl rfl ?_
                    refine gf_11_58 (pc' := 186) hE fl_X11_446 dX11_ask_183 is_141 rfl (fun v490 hv490 htv490 hbv490 => ?_)
                    have hq490 : v488 = v490 := (show v490 = v488 by rw [hv490, hv488]).symm
                    subst hq490
                    clear htv490 hbv490
                    refine pf_11_58 (pc' := 189) hE fl_X11_446 dX11_ask_186 is_141 trivial rfl (fun σ491 eσ491 => ?_)
                    refine dk_iload (pc' := 191) hE dX11_ask_189 rfl rfl ?_
                    refine dk_bipush (pc' := 193) hE dX11_ask_191 (by decide) rfl ?_
                    refine dk_icmp_gt (tgt := 217) (pc' := 196) hE dX11_ask_193 (by decide) rfl (fun hc492 => ?_) (fun hc492 => ?_)
                    · skip
                      obtain ⟨v493, hv493⟩ : ∃ z : Int, z = i + 1 := ⟨_, rfl⟩
                      refine dk_iinc (pc' := 220) (ls' := [(4, 141), (0, b), (0, p), (0, d), (0, k), (0, m), (0, v493), (0, v14)]) hE dX11_ask_217 rfl hv493.symm (by omega) rfl (by decide) rfl ?_
                      refine dk_goto (tgt := 47) hE dX11_ask_220 (by decide) ?_
                      refine dk_drop (ls' := [(4, 141), (0, b), (0, p), (0, d), (0, k), (0, m), (0, v493), (9, 0)]) [true, true, true, true, true, true, true, false] rfl ?_
                      exact ih47 m v493 σ491 (by omega) (fun k_ j_ h_ => by rw [eσ491, dk_up_n (show ¬ (k_ = 141 ∧ j_ = 58) from fun q_ => h_ (Or.inr (Or.inl (q_)))), eσ475, dk_up_n (show ¬ (k_ = 141 ∧ j_ = 60) from fun q_ => h_ (Or.inr (Or.inr (Or.inr (q_))))), hF47 k_ j_ (fun w_ => h_ (w_.elim (fun x0_ => Or.inl (x0_)) (fun y0_ => y0_.elim (fun x1_ => Or.inr (Or.inl (x1_))) (fun y1_ => y1_.elim (fun x2_ => Or.inr (Or.inr (Or.inl (x2_)))) (fun y2_ => Or.inr (Or.inr (Or.inr (y2_))))))))]) (by omega)
                    · skip
                      refine dk_aload_n (pc' := 197) hE dX11_ask_196 rfl rfl rfl ?_
                      refine dk_dup (pc' := 198) hE dX11_ask_197 (show (4 : Nat) ≠ 3 by decide) rfl ?_
                      refine gf_11_59 (pc' := 201) hE fl_X11_449 dX11_ask_198 is_141 rfl (fun v494 hv494 htv494 hbv494 => ?_)
                      refine dk_aload_n (pc' := 202) hE dX11_ask_201 rfl rfl rfl ?_
                      refine dk_aload_n (pc' := 203) hE dX11_ask_202 rfl rfl rfl ?_
                      refine gf_11_48 (pc' := 206) (w := 172) hE fl_X11_107 dX11_ask_203 is_141 rfl rfl ?_
                      refine dk_iload (pc' := 208) hE dX11_ask_206 rfl rfl ?_
                      refine ga_100 (pc' := 209) hE dX11_ask_208 is_172 (by omega) rfl (fun v495 hv495 htv495 hbv495 => ?_)
                      have hq495 : v476 = v495 := (show v495 = v476 by rw [hv495, eσ491, dk_up_n (show ¬ (172 = 141 ∧ i = 58) by omega), hv476]).symm
                      subst hq495
                      clear htv495 hbv495
                      have gv476 := hG.1 i (by omega) (by omega)
                      refine dk_iconst (pc' := 210) hE dX11_ask_209 (by decide) rfl ?_
                      refine dk_cV (pc' := 213) (as := [(0, v476), (0, 0)]) hE lk_X11_362 (ct_X11_loadOf l G hGd v476 0) dX11_ask_210 rfl is_141 rfl (by decide) (Nat.le_of_ble_eq_true rfl) ⟨rfl, (by omega), (by omega)⟩ rfl (fun r497 σ496 hr497 hor497 => ?_)
                      obtain ⟨v498, rfl, hfσ496, hpr497⟩ := hr497
                      have hsσ496 : σ491 = σ496 := (funext (fun k => funext (fun j => hfσ496 k j not_false))).symm
                      subst hsσ496
                      refine dk_iaddW (pc' := 214) hE dX11_ask_213 rfl (fun v499 hv499 _ => ?_)
                      refine pf_11_59 (pc' := 217) hE fl_X11_449 dX11_ask_214 is_141 trivial rfl (fun σ500 eσ500 => ?_)
                      obtain ⟨v501, hv501⟩ : ∃ z : Int, z = i + 1 := ⟨_, rfl⟩
                      refine dk_iinc (pc' := 220) (ls' := [(4, 141), (0, b), (0, p), (0, d), (0, k), (0, m), (0, v501), (0, v14)]) hE dX11_ask_217 rfl hv501.symm (by omega) rfl (by decide) rfl ?_
                      refine dk_goto (tgt := 47) hE dX11_ask_220 (by decide) ?_
                      refine dk_drop (ls' := [(4, 141), (0, b), (0, p), (0, d), (0, k), (0, m), (0, v501), (9, 0)]) [true, true, true, true, true, true, true, false] rfl ?_
                      exact ih47 m v501 σ500 (by omega) (fun k_ j_ h_ => by rw [eσ500, dk_up_n (show ¬ (k_ = 141 ∧ j_ = 59) from fun q_ => h_ (Or.inr (Or.inr (Or.inl (q_))))), eσ491, dk_up_n (show ¬ (k_ = 141 ∧ j_ = 58) from fun q_ => h_ (Or.inr (Or.inl (q_)))), eσ475, dk_up_n (show ¬ (k_ = 141 ∧ j_ = 60) from fun q_ => h_ (Or.inr (Or.inr (Or.inr (q_))))), hF47 k_ j_ (fun w_ => h_ (w_.elim (fun x0_ => Or.inl (x0_)) (fun y0_ => y0_.elim (fun x1_ => Or.inr (Or.inl (x1_))) (fun y1_ => y1_.elim (fun x2_ => Or.inr (Or.inr (Or.inl (x2_)))) (fun y2_ => Or.inr (Or.inr (Or.inr (y2_))))))))]) (by omega)
                  · skip
                    refine dk_iload (pc' := 179) hE dX11_ask_177 rfl rfl ?_
                    refine dk_goto (tgt := 186) hE dX11_ask_179 (by decide) ?_
                    refine pf_11_58 (pc' := 189) hE fl_X11_446 dX11_ask_186 is_141 trivial rfl (fun σ502 eσ502 => ?_)
                    refine dk_iload (pc' := 191) hE dX11_ask_189 rfl rfl ?_
                    refine dk_bipush (pc' := 193) hE dX11_ask_191 (by decide) rfl ?_
                    refine dk_icmp_gt (tgt := 217) (pc' := 196) hE dX11_ask_193 (by decide) rfl (fun hc503 => ?_) (fun hc503 => ?_)
                    · skip
                      obtain ⟨v504, hv504⟩ : ∃ z : Int, z = i + 1 := ⟨_, rfl⟩
                      refine dk_iinc (pc' := 220) (ls' := [(4, 141), (0, b), (0, p), (0, d), (0, k), (0, m), (0, v504), (0, v14)]) hE dX11_ask_217 rfl hv504.symm (by omega) rfl (by decide) rfl ?_
                      refine dk_goto (tgt := 47) hE dX11_ask_220 (by decide) ?_
                      refine dk_drop (ls' := [(4, 141), (0, b), (0, p), (0, d), (0, k), (0, m), (0, v504), (9, 0)]) [true, true, true, true, true, true, true, false] rfl ?_
                      exact ih47 m v504 σ502 (by omega) (fun k_ j_ h_ => by rw [eσ502, dk_up_n (show ¬ (k_ = 141 ∧ j_ = 58) from fun q_ => h_ (Or.inr (Or.inl (q_)))), eσ475, dk_up_n (show ¬ (k_ = 141 ∧ j_ = 60) from fun q_ => h_ (Or.inr (Or.inr (Or.inr (q_))))), hF47 k_ j_ (fun w_ => h_ (w_.elim (fun x0_ => Or.inl (x0_)) (fun y0_ => y0_.elim (fun x1_ => Or.inr (Or.inl (x1_))) (fun y1_ => y1_.elim (fun x2_ => Or.inr (Or.inr (Or.inl (x2_)))) (fun y2_ => Or.inr (Or.inr (Or.inr (y2_))))))))]) (by omega)
                    · skip
                      refine dk_aload_n (pc' := 197) hE dX11_ask_196 rfl rfl rfl ?_
                      refine dk_dup (pc' := 198) hE dX11_ask_197 (show (4 : Nat) ≠ 3 by decide) rfl ?_
                      refine gf_11_59 (pc' := 201) hE fl_X11_449 dX11_ask_198 is_141 rfl (fun v505 hv505 htv505 hbv505 => ?_)
                      refine dk_aload_n (pc' := 202) hE dX11_ask_201 rfl rfl rfl ?_
                      refine dk_aload_n (pc' := 203) hE dX11_ask_202 rfl rfl rfl ?_
                      refine gf_11_48 (pc' := 206) (w := 172) hE fl_X11_107 dX11_ask_203 is_141 rfl rfl ?_
                      refine dk_iload (pc' := 208) hE dX11_ask_206 rfl rfl ?_
                      refine ga_100 (pc' := 209) hE dX11_ask_208 is_172 (by omega) rfl (fun v506 hv506 htv506 hbv506 => ?_)
                      have hq506 : v476 = v506 := (show v506 = v476 by rw [hv506, eσ502, dk_up_n (show ¬ (172 = 141 ∧ i = 58) by omega), hv476]).symm
                      subst hq506
                      clear htv506 hbv506
                      have gv476 := hG.1 i (by omega) (by omega)
                      refine dk_iconst (pc' := 210) hE dX11_ask_209 (by decide) rfl ?_
                      refine dk_cV (pc' := 213) (as := [(0, v476), (0, 0)]) hE lk_X11_362 (ct_X11_loadOf l G hGd v476 0) dX11_ask_210 rfl is_141 rfl (by decide) (Nat.le_of_ble_eq_true rfl) ⟨rfl, (by omega), (by omega)⟩ rfl (fun r508 σ507 hr508 hor508 => ?_)
                      obtain ⟨v509, rfl, hfσ507, hpr508⟩ := hr508
                      have hsσ507 : σ502 = σ507 := (funext (fun k => funext (fun j => hfσ507 k j not_false))).symm
                      subst hsσ507
                      refine dk_iaddW (pc' := 214) hE dX11_ask_213 rfl (fun v510 hv510 _ => ?_)
                      refine pf_11_59 (pc' := 217) hE fl_X11_449 dX11_ask_214 is_141 trivial rfl (fun σ511 eσ511 => ?_)
                      obtain ⟨v512, hv512⟩ : ∃ z : Int, z = i + 1 := ⟨_, rfl⟩
                      refine dk_iinc (pc' := 220) (ls' := [(4, 141), (0, b), (0, p), (0, d), (0, k), (0, m), (0, v512), (0, v14)]) hE dX11_ask_217 rfl hv512.symm (by omega) rfl (by decide) rfl ?_
                      refine dk_goto (tgt := 47) hE dX11_ask_220 (by decide) ?_
                      refine dk_drop (ls' := [(4, 141), (0, b), (0, p), (0, d), (0, k), (0, m), (0, v512), (9, 0)]) [true, true, true, true, true, true, true, false] rfl ?_
                      exact ih47 m v512 σ511 (by omega) (fun k_ j_ h_ => by rw [eσ511, dk_up_n (show ¬ (k_ = 141 ∧ j_ = 59) from fun q_ => h_ (Or.inr (Or.inr (Or.inl (q_))))), eσ502, dk_up_n (show ¬ (k_ = 141 ∧ j_ = 58) from fun q_ => h_ (Or.inr (Or.inl (q_)))), eσ475, dk_up_n (show ¬ (k_ = 141 ∧ j_ = 60) from fun q_ => h_ (Or.inr (Or.inr (Or.inr (q_))))), hF47 k_ j_ (fun w_ => h_ (w_.elim (fun x0_ => Or.inl (x0_)) (fun y0_ => y0_.elim (fun x1_ => Or.inr (Or.inl (x1_))) (fun y1_ => y1_.elim (fun x2_ => Or.inr (Or.inr (Or.inl (x2_)))) (fun y2_ => Or.inr (Or.inr (Or.inr (y2_))))))))]) (by omega)
              · skip
                refine dk_iload (pc' := 146) hE dX11_ask_144 rfl rfl ?_
                refine dk_goto (tgt := 153) hE dX11_ask_146 (by decide) ?_
                refine pf_11_60 (pc' := 156) hE fl_X11_452 dX11_ask_153 is_141 trivial rfl (fun σ513 eσ513 => ?_)
                refine dk_aload_n (pc' := 157) hE dX11_ask_156 rfl rfl rfl ?_
                refine gf_11_48 (pc' := 160) (w := 172) hE fl_X11_107 dX11_ask_157 is_141 rfl rfl ?_
                refine dk_iload (pc' := 162) hE dX11_ask_160 rfl rfl ?_
                refine ga_100 (pc' := 163) hE dX11_ask_162 is_172 (by omega) rfl (fun v514 hv514 htv514 hbv514 => ?_)
                have hq514 : v514 = σ 172 i := by rw [hv514, eσ513, dk_up_n (show ¬ (172 = 141 ∧ i = 60) by omega), hF47 172 i (by omega), eσ7, dk_up_n (show ¬ (172 = 141 ∧ i = 60) by omega), eσ6, dk_up_n (show ¬ (172 = 141 ∧ i = 59) by omega), eσ5, dk_up_n (show ¬ (172 = 141 ∧ i = 58) by omega), eσ4, dk_up_n (show ¬ (172 = 141 ∧ i = 57) by omega), eσ3, dk_up_n (show ¬ (172 = 141 ∧ i = 61) by omega), eσ2, dk_up_n (show ¬ (172 = 141 ∧ i = 56) by omega), eσ1, dk_up_n (show ¬ (172 = 141 ∧ i = 55) by omega)]
                refine dk_iload_n (pc' := 164) hE dX11_ask_163 rfl rfl rfl ?_
                refine dk_icmp_ne (tgt := 189) (pc' := 167) hE dX11_ask_164 (by decide) rfl (fun hc515 => ?_) (fun hc515 => ?_)
                · skip
                  refine dk_iload (pc' := 191) hE dX11_ask_189 rfl rfl ?_
                  refine dk_bipush (pc' := 193) hE dX11_ask_191 (by decide) rfl ?_
                  refine dk_icmp_gt (tgt := 217) (pc' := 196) hE dX11_ask_193 (by decide) rfl (fun hc516 => ?_) (fun hc516 => ?_)
                  · skip
                    obtain ⟨v517, hv517⟩ : ∃ z : Int, z = i + 1 := ⟨_, rfl⟩
                    refine dk_iinc (pc' := 220) (ls' := [(4, 141), (0, b), (0, p), (0, d), (0, k), (0, m), (0, v517), (0, v14)]) hE dX11_ask_217 rfl hv517.symm (by omega) rfl (by decide) rfl ?_
                    refine dk_goto (tgt := 47) hE dX11_ask_220 (by decide) ?_
                    refine dk_drop (ls' := [(4, 141), (0, b), (0, p), (0, d), (0, k), (0, m), (0, v517), (9, 0)]) [true, true, true, true, true, true, true, false] rfl ?_
                    exact ih47 m v517 σ513 (by omega) (fun k_ j_ h_ => by rw [eσ513, dk_up_n (show ¬ (k_ = 141 ∧ j_ = 60) from fun q_ => h_ (Or.inr (Or.inr (Or.inr (q_))))), hF47 k_ j_ (fun w_ => h_ (w_.elim (fun x0_ => Or.inl (x0_)) (fun y0_ => y0_.elim (fun x1_ => Or.inr (Or.inl (x1_))) (fun y1_ => y1_.elim (fun x2_ => Or.inr (Or.inr (Or.inl (x2_)))) (fun y2_ => Or.inr (Or.inr (Or.inr (y2_))))))))]) (by omega)
                  · skip
                    refine dk_aload_n (pc' := 197) hE dX11_ask_196 rfl rfl rfl ?_
                    refine dk_dup (pc' := 198) hE dX11_ask_197 (show (4 : Nat) ≠ 3 by decide) rfl ?_
                    refine gf_11_59 (pc' := 201) hE fl_X11_449 dX11_ask_198 is_141 rfl (fun v518 hv518 htv518 hbv518 => ?_)
                    refine dk_aload_n (pc' := 202) hE dX11_ask_201 rfl rfl rfl ?_
                    refine dk_aload_n (pc' := 203) hE dX11_ask_202 rfl rfl rfl ?_
                    refine gf_11_48 (pc' := 206) (w := 172) hE fl_X11_107 dX11_ask_203 is_141 rfl rfl ?_
                    refine dk_iload (pc' := 208) hE dX11_ask_206 rfl rfl ?_
                    refine ga_100 (pc' := 209) hE dX11_ask_208 is_172 (by omega) rfl (fun v519 hv519 htv519 hbv519 => ?_)
                    have hq519 : v514 = v519 := (show v519 = v514 by rw [hv519, hv514]).symm
                    subst hq519
                    clear htv519 hbv519
                    have gv514 := hG.1 i (by omega) (by omega)
                    refine dk_iconst (pc' := 210) hE dX11_ask_209 (by decide) rfl ?_
                    refine dk_cV (pc' := 213) (as := [(0, v514), (0, 0)]) hE lk_X11_362 (ct_X11_loadOf l G hGd v514 0) dX11_ask_210 rfl is_141 rfl (by decide) (Nat.le_of_ble_eq_true rfl) ⟨rfl, (by omega), (by omega)⟩ rfl (fun r521 σ520 hr521 hor521 => ?_)
                    obtain ⟨v522, rfl, hfσ520, hpr521⟩ := hr521
                    have hsσ520 : σ513 = σ520 := (funext (fun k => funext (fun j => hfσ520 k j not_false))).symm
                    subst hsσ520
                    refine dk_iaddW (pc' := 214) hE dX11_ask_213 rfl (fun v523 hv523 _ => ?_)
                    refine pf_11_59 (pc' := 217) hE fl_X11_449 dX11_ask_214 is_141 trivial rfl (fun σ524 eσ524 => ?_)
                    obtain ⟨v525, hv525⟩ : ∃ z : Int, z = i + 1 := ⟨_, rfl⟩
                    refine dk_iinc (pc' := 220) (ls' := [(4, 141), (0, b), (0, p), (0, d), (0, k), (0, m), (0, v525), (0, v14)]) hE dX11_ask_217 rfl hv525.symm (by omega) rfl (by decide) rfl ?_
                    refine dk_goto (tgt := 47) hE dX11_ask_220 (by decide) ?_
                    refine dk_drop (ls' := [(4, 141), (0, b), (0, p), (0, d), (0, k), (0, m), (0, v525), (9, 0)]) [true, true, true, true, true, true, true, false] rfl ?_
                    exact ih47 m v525 σ524 (by omega) (fun k_ j_ h_ => by rw [eσ524, dk_up_n (show ¬ (k_ = 141 ∧ j_ = 59) from fun q_ => h_ (Or.inr (Or.inr (Or.inl (q_))))), eσ513, dk_up_n (show ¬ (k_ = 141 ∧ j_ = 60) from fun q_ => h_ (Or.inr (Or.inr (Or.inr (q_))))), hF47 k_ j_ (fun w_ => h_ (w_.elim (fun x0_ => Or.inl (x0_)) (fun y0_ => y0_.elim (fun x1_ => Or.inr (Or.inl (x1_))) (fun y1_ => y1_.elim (fun x2_ => Or.inr (Or.inr (Or.inl (x2_)))) (fun y2_ => Or.inr (Or.inr (Or.inr (y2_))))))))]) (by omega)
                · skip
                  refine dk_aload_n (pc' := 168) hE dX11_ask_167 rfl rfl rfl ?_
                  refine dk_iload (pc' := 170) hE dX11_ask_168 rfl rfl ?_
                  refine dk_aload_n (pc' := 171) hE dX11_ask_170 rfl rfl rfl ?_
                  refine gf_11_58 (pc' := 174) hE fl_X11_446 dX11_ask_171 is_141 rfl (fun v526 hv526 htv526 hbv526 => ?_)
                  refine dk_icmp_ge (tgt := 182) (pc' := 177) hE dX11_ask_174 (by decide) rfl (fun hc527 => ?_) (fun hc527 => ?_)
                  · skip
                    refine dk_aload_n (pc' := 183) hE dX11_ask_182 rfl rfl rfl ?_
                    refine gf_11_58 (pc' := 186) hE fl_X11_446 dX11_ask_183 is_141 rfl (fun v528 hv528 htv528 hbv528 => ?_)
                    have hq528 : v526 = v528 := (show v528 = v526 by rw [hv528, hv526]).symm
                    subst hq528
                    clear htv528 hbv528
                    refine pf_11_58 (pc' := 189) hE fl_X11_446 dX11_ask_186 is_141 trivial rfl (fun σ529 eσ529 => ?_)
                    refine dk_iload (pc' := 191) hE dX11_ask_189 rfl rfl ?_
                    refine dk_bipush (pc' := 193) hE dX11_ask_191 (by decide) rfl ?_
                    refine dk_icmp_gt (tgt := 217) (pc' := 196) hE dX11_ask_193 (by decide) rfl (fun hc530 => ?_) (fun hc530 => ?_)
                    · skip
                      obtain ⟨v531, hv531⟩ : ∃ z : Int, z = i + 1 := ⟨_, rfl⟩
                      refine dk_iinc (pc' := 220) (ls' := [(4, 141), (0, b), (0, p), (0, d), (0, k), (0, m), (0, v531), (0, v14)]) hE dX11_ask_217 rfl hv531.symm (by omega) rfl (by decide) rfl ?_
                      refine dk_goto (tgt := 47) hE dX11_ask_220 (by decide) ?_
                      refine dk_drop (ls' := [(4, 141), (0, b), (0, p), (0, d), (0, k), (0, m), (0, v531), (9, 0)]) [true, true, true, true, true, true, true, false] rfl ?_
                      exact ih47 m v531 σ529 (by omega) (fun k_ j_ h_ => by rw [eσ529, dk_up_n (show ¬ (k_ = 141 ∧ j_ = 58) from fun q_ => h_ (Or.inr (Or.inl (q_)))), eσ513, dk_up_n (show ¬ (k_ = 141 ∧ j_ = 60) from fun q_ => h_ (Or.inr (Or.inr (Or.inr (q_))))), hF47 k_ j_ (fun w_ => h_ (w_.elim (fun x0_ => Or.inl (x0_)) (fun y0_ => y0_.elim (fun x1_ => Or.inr (Or.inl (x1_))) (fun y1_ => y1_.elim (fun x2_ => Or.inr (Or.inr (Or.inl (x2_)))) (fun y2_ => Or.inr (Or.inr (Or.inr (y2_))))))))]) (by omega)
                    · skip
                      refine dk_aload_n (pc' := 197) hE dX11_ask_196 rfl rfl rfl ?_
                      refine dk_dup (pc' := 198) hE dX11_ask_197 (show (4 : Nat) ≠ 3 by decide) rfl ?_
                      refine gf_11_59 (pc' := 201) hE fl_X11_449 dX11_ask_198 is_141 rfl (fun v532 hv532 htv532 hbv532 => ?_)
                      refine dk_aload_n (pc' := 202) hE dX11_ask_201 rfl rfl rfl ?_
                      refine dk_aload_n (pc' := 203) hE dX11_ask_202 rfl rfl rfl ?_
                      refine gf_11_48 (pc' := 206) (w := 172) hE fl_X11_107 dX11_ask_203 is_141 rfl rfl ?_
                      refine dk_iload (pc' := 208) hE dX11_ask_206 rfl rfl ?_
                      refine ga_100 (pc' := 209) hE dX11_ask_208 is_172 (by omega) rfl (fun v533 hv533 htv533 hbv533 => ?_)
                      have hq533 : v514 = v533 := (show v533 = v514 by rw [hv533, eσ529, dk_up_n (show ¬ (172 = 141 ∧ i = 58) by omega), hv514]).symm
                      subst hq533
                      clear htv533 hbv533
                      have gv514 := hG.1 i (by omega) (by omega)
                      refine dk_iconst (pc' := 210) hE dX11_ask_209 (by decide) rfl ?_
                      refine dk_cV (pc' := 213) (as := [(0, v514), (0, 0)]) hE lk_X11_362 (ct_X11_loadOf l G hGd v514 0) dX11_ask_210 rfl is_141 rfl (by decide) (Nat.le_of_ble_eq_true rfl) ⟨rfl, (by omega), (by omega)⟩ rfl (fun r535 σ534 hr535 hor535 => ?_)
                      obtain ⟨v536, rfl, hfσ534, hpr535⟩ := hr535
                      have hsσ534 : σ529 = σ534 := (funext (fun k => funext (fun j => hfσ534 k j not_false))).symm
                      subst hsσ534
                      refine dk_iaddW (pc' := 214) hE dX11_ask_213 rfl (fun v537 hv537 _ => ?_)
                      refine pf_11_59 (pc' := 217) hE fl_X11_449 dX11_ask_214 is_141 trivial rfl (fun σ538 eσ538 => ?_)
                      obtain ⟨v539, hv539⟩ : ∃ z : Int, z = i + 1 := ⟨_, rfl⟩
                      refine dk_iinc (pc' := 220) (ls' := [(4, 141), (0, b), (0, p), (0, d), (0, k), (0, m), (0, v539), (0, v14)]) hE dX11_ask_217 rfl hv539.symm (by omega) rfl (by decide) rfl ?_
                      refine dk_goto (tgt := 47) hE dX11_ask_220 (by decide) ?_
                      refine dk_drop (ls' := [(4, 141), (0, b), (0, p), (0, d), (0, k), (0, m), (0, v539), (9, 0)]) [true, true, true, true, true, true, true, false] rfl ?_
                      exact ih47 m v539 σ538 (by omega) (fun k_ j_ h_ => by rw [eσ538, dk_up_n (show ¬ (k_ = 141 ∧ j_ = 59) from fun q_ => h_ (Or.inr (Or.inr (Or.inl (q_))))), eσ529, dk_up_n (show ¬ (k_ = 141 ∧ j_ = 58) from fun q_ => h_ (Or.inr (Or.inl (q_)))), eσ513, dk_up_n (show ¬ (k_ = 141 ∧ j_ = 60) from fun q_ => h_ (Or.inr (Or.inr (Or.inr (q_))))), hF47 k_ j_ (fun w_ => h_ (w_.elim (fun x0_ => Or.inl (x0_)) (fun y0_ => y0_.elim (fun x1_ => Or.inr (Or.inl (x1_))) (fun y1_ => y1_.elim (fun x2_ => Or.inr (Or.inr (Or.inl (x2_)))) (fun y2_ => Or.inr (Or.inr (Or.inr (y2_))))))))]) (by omega)
                  · skip
                    refine dk_iload (pc' := 179) hE dX11_ask_177 rfl rfl ?_
                    refine dk_goto (tgt := 186) hE dX11_ask_179 (by decide) ?_
                    refine pf_11_58 (pc' := 189) hE fl_X11_446 dX11_ask_186 is_141 trivial rfl (fun σ540 eσ540 => ?_)
                    refine dk_iload (pc' := 191) hE dX11_ask_189 rfl rfl ?_
                    refine dk_bipush (pc' := 193) hE dX11_ask_191 (by decide) rfl ?_
                    refine dk_icmp_gt (tgt := 217) (pc' := 196) hE dX11_ask_193 (by decide) rfl (fun hc541 => ?_) (fun hc541 => ?_)
                    · skip
                      obtain ⟨v542, hv542⟩ : ∃ z : Int, z = i + 1 := ⟨_, rfl⟩
                      refine dk_iinc (pc' := 220) (ls' := [(4, 141), (0, b), (0, p), (0, d), (0, k), (0, m), (0, v542), (0, v14)]) hE dX11_ask_217 rfl hv542.symm (by omega) rfl (by decide) rfl ?_
                      refine dk_goto (tgt := 47) hE dX11_ask_220 (by decide) ?_
                      refine dk_drop (ls' := [(4, 141), (0, b), (0, p), (0, d), (0, k), (0, m), (0, v542), (9, 0)]) [true, true, true, true, true, true, true, false] rfl ?_
                      exact ih47 m v542 σ540 (by omega) (fun k_ j_ h_ => by rw [eσ540, dk_up_n (show ¬ (k_ = 141 ∧ j_ = 58) from fun q_ => h_ (Or.inr (Or.inl (q_)))), eσ513, dk_up_n (show ¬ (k_ = 141 ∧ j_ = 60) from fun q_ => h_ (Or.inr (Or.inr (Or.inr (q_))))), hF47 k_ j_ (fun w_ => h_ (w_.elim (fun x0_ => Or.inl (x0_)) (fun y0_ => y0_.elim (fun x1_ => Or.inr (Or.inl (x1_))) (fun y1_ => y1_.elim (fun x2_ => Or.inr (Or.inr (Or.inl (x2_)))) (fun y2_ => Or.inr (Or.inr (Or.inr (y2_))))))))]) (by omega)
                    · skip
                      refine dk_aload_n (pc' := 197) hE dX11_ask_196 rfl rfl rfl ?_
                      refine dk_dup (pc' := 198) hE dX11_ask_197 (show (4 : Nat) ≠ 3 by decide) rfl ?_
                      refine gf_11_59 (pc' := 201) hE fl_X11_449 dX11_ask_198 is_141 rfl (fun v543 hv543 htv543 hbv543 => ?_)
                      refine dk_aload_n (pc' := 202) hE dX11_ask_201 rfl rfl rfl ?_
                      refine dk_aload_n (pc' := 203) hE dX11_ask_202 rfl rfl rfl ?_
                      refine gf_11_48 (pc' := 206) (w := 172) hE fl_X11_107 dX11_ask_203 is_141 rfl rfl ?_
                      refine dk_iload (pc' := 208) hE dX11_ask_206 rfl rfl ?_
                      refine ga_100 (pc' := 209) hE dX11_ask_208 is_172 (by omega) rfl (fun v544 hv544 htv544 hbv544 => ?_)
                      have hq544 : v514 = v544 := (show v544 = v514 by rw [hv544, eσ540, dk_up_n (show ¬ (172 = 141 ∧ i = 58) by omega), hv514]).symm
                      subst hq544
                      clear htv544 hbv544
                      have gv514 := hG.1 i (by omega) (by omega)
                      refine dk_iconst (pc' := 210) hE dX11_ask_209 (by decide) rfl ?_
                      refine dk_cV (pc' := 213) (as := [(0, v514), (0, 0)]) hE lk_X11_362 (ct_X11_loadOf l G hGd v514 0) dX11_ask_210 rfl is_141 rfl (by decide) (Nat.le_of_ble_eq_true rfl) ⟨rfl, (by omega), (by omega)⟩ rfl (fun r546 σ545 hr546 hor546 => ?_)
                      obtain ⟨v547, rfl, hfσ545, hpr546⟩ := hr546
                      have hsσ545 : σ540 = σ545 := (funext (fun k => funext (fun j => hfσ545 k j not_false))).symm
                      subst hsσ545
                      refine dk_iaddW (pc' := 214) hE dX11_ask_213 rfl (fun v548 hv548 _ => ?_)
                      refine pf_11_59 (pc' := 217) hE fl_X11_449 dX11_ask_214 is_141 trivial rfl (fun σ549 eσ549 => ?_)
                      obtain ⟨v550, hv550⟩ : ∃ z : Int, z = i + 1 := ⟨_, rfl⟩
                      refine dk_iinc (pc' := 220) (ls' := [(4, 141), (0, b), (0, p), (0, d), (0, k), (0, m), (0, v550), (0, v14)]) hE dX11_ask_217 rfl hv550.symm (by omega) rfl (by decide) rfl ?_
                      refine dk_goto (tgt := 47) hE dX11_ask_220 (by decide) ?_
                      refine dk_drop (ls' := [(4, 141), (0, b), (0, p), (0, d), (0, k), (0, m), (0, v550), (9, 0)]) [true, true, true, true, true, true, true, false] rfl ?_
                      exact ih47 m v550 σ549 (by omega) (fun k_ j_ h_ => by rw [eσ549, dk_up_n (show ¬ (k_ = 141 ∧ j_ = 59) from fun q_ => h_ (Or.inr (Or.inr (Or.inl (q_))))), eσ540, dk_up_n (show ¬ (k_ = 141 ∧ j_ = 58) from fun q_ => h_ (Or.inr (Or.inl (q_)))), eσ513, dk_up_n (show ¬ (k_ = 141 ∧ j_ = 60) from fun q_ => h_ (Or.inr (Or.inr (Or.inr (q_))))), hF47 k_ j_ (fun w_ => h_ (w_.elim (fun x0_ => Or.inl (x0_)) (fun y0_ => y0_.elim (fun x1_ => Or.inr (Or.inl (x1_))) (fun y1_ => y1_.elim (fun x2_ => Or.inr (Or.inr (Or.inl (x2_)))) (fun y2_ => Or.inr (Or.inr (Or.inr (y2_))))))))]) (by omega)
            · skip
              refine dk_goto (tgt := 217) hE dX11_ask_131 (by decide) ?_
              obtain ⟨v551, hv551⟩ : ∃ z : Int, z = i + 1 := ⟨_, rfl⟩
              refine dk_iinc (pc' := 220) (ls' := [(4, 141), (0, b), (0, p), (0, d), (0, k), (0, m), (0, v551), (0, v14)]) hE dX11_ask_217 rfl hv551.symm (by omega) rfl (by decide) rfl ?_
              refine dk_goto (tgt := 47) hE dX11_ask_220 (by decide) ?_
              refine dk_drop (ls' := [(4, 141), (0, b), (0, p), (0, d), (0, k), (0, m), (0, v551), (9, 0)]) [true, true, true, true, true, true, true, false] rfl ?_
              exact ih47 m v551 σ47c (by omega) (fun k_ j_ h_ => by rw [hF47 k_ j_ (fun w_ => h_ (w_.elim (fun x0_ => Or.inl (x0_)) (fun y0_ => y0_.elim (fun x1_ => Or.inr (Or.inl (x1_))) (fun y1_ => y1_.elim (fun x2_ => Or.inr (Or.inr (Or.inl (x2_)))) (fun y2_ => Or.inr (Or.inr (Or.inr (y2_))))))))]) (by omega)
          · skip
            refine dk_if_eq (tgt := 217) (pc' := 125) hE dX11_ask_122 (by decide) rfl (fun hc552 => ?_) (fun hc552 => absurd hc552 (by decide))
            obtain ⟨v553, hv553⟩ : ∃ z : Int, z = i + 1 := ⟨_, rfl⟩
            refine dk_iinc (pc' := 220) (ls' := [(4, 141), (0, b), (0, p), (0, d), (0, k), (0, m), (0, v553), (0, v14)]) hE dX11_ask_217 rfl hv553.symm (by omega) rfl (by decide) rfl ?_
            refine dk_goto (tgt := 47) hE dX11_ask_220 (by decide) ?_
            refine dk_drop (ls' := [(4, 141), (0, b), (0, p), (0, d), (0, k), (0, m), (0, v553), (9, 0)]) [true, true, true, true, true, true, true, false] rfl ?_
            exact ih47 m v553 σ47c (by omega) (fun k_ j_ h_ => by rw [hF47 k_ j_ (fun w_ => h_ (w_.elim (fun x0_ => Or.inl (x0_)) (fun y0_ => y0_.elim (fun x1_ => Or.inr (Or.inl (x1_))) (fun y1_ => y1_.elim (fun x2_ => Or.inr (Or.inr (Or.inl (x2_)))) (fun y2_ => Or.inr (Or.inr (Or.inr (y2_))))))))]) (by omega)
  exact lp47 _ (-1) 0 σ7 (Nat.lt_succ_self _) (fun k_ j_ h_ => rfl) (by omega)
set_option maxHeartbeats 4000000 in
set_option maxRecDepth 20000 in
theorem ct_X11_asked (l : Launch) (G : dkG) (hGd : dk_Gd G) (b p d w k : Int) : dk_Ct l G dk_Ty yX11_asked cX11_asked 6 (some .int) 5 190 190 (fun av σ => av = [(4, 141), (0, b), (0, p), (0, d), (0, w), (0, k)] ∧ (MI σ)) (fun _ σ r_ σ' => ∃ z : Int, r_ = some (0, z) ∧ (∀ k_ j_ : Int, ¬ ((k_ = 141 ∧ j_ = 55) ∨ (k_ = 141 ∧ j_ = 56) ∨ (k_ = 141 ∧ j_ = 57) ∨ (k_ = 141 ∧ j_ = 58) ∨ (k_ = 141 ∧ j_ = 59) ∨ (k_ = 141 ∧ j_ = 60) ∨ (k_ = 141 ∧ j_ = 61)) → σ' k_ j_ = σ k_ j_) ∧ (True)) := by
  refine dk_enter hGd (by decide) (fun av σ hpre hok => ?_)
  obtain ⟨rfl, hG⟩ := hpre
  refine ⟨Nat.le_of_ble_eq_true rfl, fun E hE hR _ => ?_⟩
  have hi_b : dk_i32 b := dk_oki (hok _ (by simp))
  have hi_p : dk_i32 p := dk_oki (hok _ (by simp))
  have hi_d : dk_i32 d := dk_oki (hok _ (by simp))
  have hi_w : dk_i32 w := dk_oki (hok _ (by simp))
  have hi_k : dk_i32 k := dk_oki (hok _ (by simp))
  show dk_PJ E 0 [(4, 141), (0, b), (0, p), (0, d), (0, w), (0, k)] [] 190 σ
  refine dk_aload_n (pc' := 1) hE dX11_asked_0 rfl rfl rfl ?_
  refine dk_iload_n (pc' := 2) hE dX11_asked_1 rfl rfl rfl ?_
  refine dk_cV (pc' := 5) (as := [(0, b)]) hE lk_X11_422 (ct_X11_isBody l G hGd b) dX11_asked_2 rfl is_141 rfl (by decide) (Nat.le_of_ble_eq_true rfl) rfl rfl (fun r2 σ1 hr2 hor2 => ?_)
  obtain ⟨v3, rfl, hfσ1, hpr2⟩ := hr2
  have hsσ1 : σ = σ1 := (funext (fun k => funext (fun j => hfσ1 k j not_false))).symm
  subst hsσ1
  rcases hpr2 with ⟨rfl, hpr2⟩ | rfl
  · skip
    refine dk_if_eq (tgt := 23) (pc' := 8) hE dX11_asked_5 (by decide) rfl (fun hc4 => absurd hc4 (by decide)) (fun hc4 => ?_)
    refine dk_aload_n (pc' := 9) hE dX11_asked_8 rfl rfl rfl ?_
    refine dk_iload_n (pc' := 10) hE dX11_asked_9 rfl rfl rfl ?_
    refine dk_cV (pc' := 13) (as := [(0, p)]) hE lk_X11_333 (ct_X11_isPart l G hGd p) dX11_asked_10 rfl is_141 rfl (by decide) (Nat.le_of_ble_eq_true rfl) rfl rfl (fun r6 σ5 hr6 hor6 => ?_)
    obtain ⟨v7, rfl, hfσ5, hpr6⟩ := hr6
    have hsσ5 : σ = σ5 := (funext (fun k => funext (fun j => hfσ5 k j not_false))).symm
    subst hsσ5
    rcases hpr6 with ⟨rfl, hpr6⟩ | rfl
    · skip
      refine dk_if_eq (tgt := 23) (pc' := 16) hE dX11_asked_13 (by decide) rfl (fun hc8 => absurd hc8 (by decide)) (fun hc8 => ?_)
      refine dk_iload_n (pc' := 17) hE dX11_asked_16 rfl rfl rfl ?_
      refine dk_cS (pc' := 20) (as := [(0, d)]) hE lk_X11_371 (ct_X11_isDay l G hGd d) dX11_asked_17 rfl rfl (by decide) (Nat.le_of_ble_eq_true rfl) rfl rfl (fun r10 σ9 hr10 hor10 => ?_)
      obtain ⟨v11, rfl, hfσ9, hpr10⟩ := hr10
      have hsσ9 : σ = σ9 := (funext (fun k => funext (fun j => hfσ9 k j not_false))).symm
      subst hsσ9
      rcases hpr10 with ⟨rfl, hpr10⟩ | ⟨rfl, hpr10⟩
      · skip
        refine dk_if_ne (tgt := 25) (pc' := 23) hE dX11_asked_20 (by decide) rfl (fun hc12 => ?_) (fun hc12 => absurd hc12 (by decide))
        refine dk_aload_n (pc' := 26) hE dX11_asked_25 rfl rfl rfl ?_
        refine dk_iload_n (pc' := 27) hE dX11_asked_26 rfl rfl rfl ?_
        refine dk_iload_n (pc' := 28) hE dX11_asked_27 rfl rfl rfl ?_
        refine dk_iload_n (pc' := 29) hE dX11_asked_28 rfl rfl rfl ?_
        refine dk_iload (pc' := 31) hE dX11_asked_29 rfl rfl ?_
        refine dk_cV (pc' := 34) (as := [(0, b), (0, p), (0, d), (0, k)]) hE lk_X11_455 (ct_X11_ask l G hGd b p d k) dX11_asked_31 rfl is_141 rfl (by decide) (Nat.le_of_ble_eq_true rfl) ⟨rfl, hG, (by omega)⟩ rfl (fun r14 σ13 hr14 hor14 => ?_)
        obtain ⟨rfl, hfσ13, hpr14⟩ := hr14
        refine dk_iload (pc' := 36) hE dX11_asked_34 rfl rfl ?_
        refine dk_if_ne (tgt := 46) (pc' := 39) hE dX11_asked_36 (by decide) rfl (fun hc15 => ?_) (fun hc15 => ?_)
        · skip
          refine dk_iload (pc' := 48) hE dX11_asked_46 rfl rfl ?_
          refine dk_iconst (pc' := 49) hE dX11_asked_48 (by decide) rfl ?_
          refine dk_icmp_ne (tgt := 59) (pc' := 52) hE dX11_asked_49 (by decide) rfl (fun hc16 => ?_) (fun hc16 => ?_)
          · skip
            refine dk_iload (pc' := 61) hE dX11_asked_59 rfl rfl ?_
            refine dk_iconst (pc' := 62) hE dX11_asked_61 (by decide) rfl ?_
            refine dk_icmp_ne (tgt := 72) (pc' := 65) hE dX11_asked_62 (by decide) rfl (fun hc17 => ?_) (fun hc17 => ?_)
            · skip
              refine dk_iload (pc' := 74) hE dX11_asked_72 rfl rfl ?_
              refine dk_iconst (pc' := 75) hE dX11_asked_74 (by decide) rfl ?_
              refine dk_icmp_ne (tgt := 85) (pc' := 78) hE dX11_asked_75 (by decide) rfl (fun hc18 => ?_) (fun hc18 => ?_)
              · skip
                refine dk_iconst (pc' := 86) hE dX11_asked_85 (by decide) rfl ?_
                exact dk_iret (st := []) hE hR dX11_asked_86 ⟨_, rfl, (fun k_ j_ h_ => by rw [hfσ13 k_ j_ (fun w_ => h_ (w_.elim (fun x0_ => Or.inl (x0_)) (fun y0_ => y0_.elim (fun x1_ => Or.inr (Or.inl (x1_))) (fun y1_ => y1_.elim (fun x2_ => Or.inr (Or.inr (Or.inl (x2_)))) (fun y2_ => y2_.elim (fun x3_ => Or.inr (Or.inr (Or.inr (Or.inl (x3_))))) (fun y3_ => y3_.elim (fun x4_ => Or.inr (Or.inr (Or.inr (Or.inr (Or.inl (x4_)))))) (fun y4_ => y4_.elim (fun x5_ => Or.inr (Or.inr (Or.inr (Or.inr (Or.inr (Or.inl (x5_))))))) (fun y5_ => Or.inr (Or.inr (Or.inr (Or.inr (Or.inr (Or.inr (y5_))))))))))))))]), trivial⟩
              · skip
                refine dk_aload_n (pc' := 79) hE dX11_asked_78 rfl rfl rfl ?_
                refine gf_11_60 (pc' := 82) hE fl_X11_452 dX11_asked_79 is_141 rfl (fun v19 hv19 htv19 hbv19 => ?_)
                refine dk_goto (tgt := 86) hE dX11_asked_82 (by decide) ?_
                exact dk_iret (st := []) hE hR dX11_asked_86 ⟨_, rfl, (fun k_ j_ h_ => by rw [hfσ13 k_ j_ (fun w_ => h_ (w_.elim (fun x0_ => Or.inl (x0_)) (fun y0_ => y0_.elim (fun x1_ => Or.inr (Or.inl (x1_))) (fun y1_ => y1_.elim (fun x2_ => Or.inr (Or.inr (Or.inl (x2_)))) (fun y2_ => y2_.elim (fun x3_ => Or.inr (Or.inr (Or.inr (Or.inl (x3_))))) (fun y3_ => y3_.elim (fun x4_ => Or.inr (Or.inr (Or.inr (Or.inr (Or.inl (x4_)))))) (fun y4_ => y4_.elim (fun x5_ => Or.inr (Or.inr (Or.inr (Or.inr (Or.inr (Or.inl (x5_))))))) (fun y5_ => Or.inr (Or.inr (Or.inr (Or.inr (Or.inr (Or.inr (y5_))))))))))))))]), trivial⟩
            · skip
              refine dk_aload_n (pc' := 66) hE dX11_asked_65 rfl rfl rfl ?_
              refine gf_11_59 (pc' := 69) hE fl_X11_449 dX11_asked_66 is_141 rfl (fun v20 hv20 htv20 hbv20 => ?_)
              refine dk_goto (tgt := 86) hE dX11_asked_69 (by decide) ?_
              exact dk_iret (st := []) hE hR dX11_asked_86 ⟨_, rfl, (fun k_ j_ h_ => by rw [hfσ13 k_ j_ (fun w_ => h_ (w_.elim (fun x0_ => Or.inl (x0_)) (fun y0_ => y0_.elim (fun x1_ => Or.inr (Or.inl (x1_))) (fun y1_ => y1_.elim (fun x2_ => Or.inr (Or.inr (Or.inl (x2_)))) (fun y2_ => y2_.elim (fun x3_ => Or.inr (Or.inr (Or.inr (Or.inl (x3_))))) (fun y3_ => y3_.elim (fun x4_ => Or.inr (Or.inr (Or.inr (Or.inr (Or.inl (x4_)))))) (fun y4_ => y4_.elim (fun x5_ => Or.inr (Or.inr (Or.inr (Or.inr (Or.inr (Or.inl (x5_))))))) (fun y5_ => Or.inr (Or.inr (Or.inr (Or.inr (Or.inr (Or.inr (y5_))))))))))))))]), trivial⟩
          · skip
            refine dk_aload_n (pc' := 53) hE dX11_asked_52 rfl rfl rfl ?_
            refine gf_11_58 (pc' := 56) hE fl_X11_446 dX11_asked_53 is_141 rfl (fun v21 hv21 htv21 hbv21 => ?_)
            refine dk_goto (tgt := 86) hE dX11_asked_56 (by decide) ?_
            exact dk_iret (st := []) hE hR dX11_asked_86 ⟨_, rfl, (fun k_ j_ h_ => by rw [hfσ13 k_ j_ (fun w_ => h_ (w_.elim (fun x0_ => Or.inl (x0_)) (fun y0_ => y0_.elim (fun x1_ => Or.inr (Or.inl (x1_))) (fun y1_ => y1_.elim (fun x2_ => Or.inr (Or.inr (Or.inl (x2_)))) (fun y2_ => y2_.elim (fun x3_ => Or.inr (Or.inr (Or.inr (Or.inl (x3_))))) (fun y3_ => y3_.elim (fun x4_ => Or.inr (Or.inr (Or.inr (Or.inr (Or.inl (x4_)))))) (fun y4_ => y4_.elim (fun x5_ => Or.inr (Or.inr (Or.inr (Or.inr (Or.inr (Or.inl (x5_))))))) (fun y5_ => Or.inr (Or.inr (Or.inr (Or.inr (Or.inr (Or.inr (y5_))))))))))))))]), trivial⟩
        · skip
          refine dk_aload_n (pc' := 40) hE dX11_asked_39 rfl rfl rfl ?_
          refine gf_11_57 (pc' := 43) hE fl_X11_443 dX11_asked_40 is_141 rfl (fun v22 hv22 htv22 hbv22 => ?_)
          refine dk_goto (tgt := 86) hE dX11_asked_43 (by decide) ?_
          exact dk_iret (st := []) hE hR dX11_asked_86 ⟨_, rfl, (fun k_ j_ h_ => by rw [hfσ13 k_ j_ (fun w_ => h_ (w_.elim (fun x0_ => Or.inl (x0_)) (fun y0_ => y0_.elim (fun x1_ => Or.inr (Or.inl (x1_))) (fun y1_ => y1_.elim (fun x2_ => Or.inr (Or.inr (Or.inl (x2_)))) (fun y2_ => y2_.elim (fun x3_ => Or.inr (Or.inr (Or.inr (Or.inl (x3_))))) (fun y3_ => y3_.elim (fun x4_ => Or.inr (Or.inr (Or.inr (Or.inr (Or.inl (x4_)))))) (fun y4_ => y4_.elim (fun x5_ => Or.inr (Or.inr (Or.inr (Or.inr (Or.inr (Or.inl (x5_))))))) (fun y5_ => Or.inr (Or.inr (Or.inr (Or.inr (Or.inr (Or.inr (y5_))))))))))))))]), trivial⟩
      · skip
        refine dk_if_ne (tgt := 25) (pc' := 23) hE dX11_asked_20 (by decide) rfl (fun hc23 => absurd hc23 (by decide)) (fun hc23 => ?_)
        refine dk_iconst (pc' := 24) hE dX11_asked_23 (by decide) rfl ?_
        exact dk_iret (st := []) hE hR dX11_asked_24 ⟨_, rfl, (fun k_ j_ h_ => rfl), trivial⟩
    · skip
      refine dk_if_eq (tgt := 23) (pc' := 16) hE dX11_asked_13 (by decide) rfl (fun hc24 => ?_) (fun hc24 => absurd hc24 (by decide))
      refine dk_iconst (pc' := 24) hE dX11_asked_23 (by decide) rfl ?_
      exact dk_iret (st := []) hE hR dX11_asked_24 ⟨_, rfl, (fun k_ j_ h_ => rfl), trivial⟩
  · skip
    refine dk_if_eq (tgt := 23) (pc' := 8) hE dX11_asked_5 (by decide) rfl (fun hc25 => ?_) (fun hc25 => absurd hc25 (by decide))
    refine dk_iconst (pc' := 24) hE dX11_asked_23 (by decide) rfl ?_
    exact dk_iret (st := []) hE hR dX11_asked_24 ⟨_, rfl, (fun k_ j_ h_ => rfl), trivial⟩
set_option maxHeartbeats 4000000 in
set_option maxRecDepth 20000 in
theorem ct_X11_inForce (l : Launch) (G : dkG) (hGd : dk_Gd G) (d : Int) : dk_Ct l G dk_Ty yX11_inForce cX11_inForce 4 (some .int) 1 190 190 (fun av σ => av = [(4, 141), (0, d)]) (fun _ σ r_ σ' => ∃ z : Int, r_ = some (0, z) ∧ (∀ k_ j_ : Int, ¬ (False) → σ' k_ j_ = σ k_ j_) ∧ (z = -1 ∨ (0 ≤ z ∧ z < σ 141 41 ∧ σ 141 41 ≤ 6))) := by
  refine dk_enter hGd (by decide) (fun av σ hpre hok => ?_)
  subst hpre
  refine ⟨Nat.le_of_ble_eq_true rfl, fun E hE hR _ => ?_⟩
  have hi_d : dk_i32 d := dk_oki (hok _ (by simp))
  show dk_PJ E 0 [(4, 141), (0, d), (9, 0), (9, 0)] [] 190 σ
  refine dk_iconst (pc' := 1) hE dX11_inForce_0 (by decide) rfl ?_
  refine dk_istore_n (pc' := 2) (ls' := [(4, 141), (0, d), (0, (-1)), (9, 0)]) hE dX11_inForce_1 rfl rfl (by decide) rfl ?_
  refine dk_iconst (pc' := 3) hE dX11_inForce_2 (by decide) rfl ?_
  refine dk_istore_n (pc' := 4) (ls' := [(4, 141), (0, d), (0, (-1)), (0, 0)]) hE dX11_inForce_3 rfl rfl (by decide) rfl ?_
  have lp4 : ∀ (N_ : Nat) (m i : Int) (σ4c : dkS), (2147483648 - i).toNat < N_ → ((∀ k_ j_ : Int, ¬ (False) → σ4c k_ j_ = σ k_ j_)) → (0 ≤ i) → (m = -1 ∨ (0 ≤ m ∧ m < σ 141 41 ∧ σ 141 41 ≤ 6)) → dk_PJ E 4 [(4, 141), (0, d), (0, m), (0, i)] [] 190 σ4c := by
    intro N4
    induction N4 with
    | zero => intro m i σ4c hm; exact absurd hm (Nat.not_lt_zero _)
    | succ N4 ih4 =>
      intro m i σ4c hm4 hF4 hi0 hm
      refine dk_iload_n (pc' := 5) hE dX11_inForce_4 rfl rfl rfl ?_
      refine dk_aload_n (pc' := 6) hE dX11_inForce_5 rfl rfl rfl ?_
      refine gf_11_41 (pc' := 9) hE fl_X11_374 dX11_inForce_6 is_141 rfl (fun v1 hv1 htv1 hbv1 => ?_)
      have hq1 : v1 = σ 141 41 := by rw [hv1, hF4 141 41 not_false]
      refine dk_icmp_ge (tgt := 49) (pc' := 12) hE dX11_inForce_9 (by decide) rfl (fun hc2 => ?_) (fun hc2 => ?_)
      · skip
        refine dk_iload_n (pc' := 50) hE dX11_inForce_49 rfl rfl rfl ?_
        exact dk_iret (st := []) hE hR dX11_inForce_50 ⟨_, rfl, (fun k_ j_ h_ => by rw [hF4 k_ j_ not_false]), by omega⟩
      · skip
        refine dk_aload_n (pc' := 13) hE dX11_inForce_12 rfl rfl rfl ?_
        refine gf_11_32 (pc' := 16) (w := 161) hE fl_X11_74 dX11_inForce_13 is_141 rfl rfl ?_
        refine dk_iload_n (pc' := 17) hE dX11_inForce_16 rfl rfl rfl ?_
        refine ga_89 (pc' := 18) hE dX11_inForce_17 is_161 (by omega) rfl (fun v3 hv3 htv3 hbv3 => ?_)
        refine dk_iload_n (pc' := 19) hE dX11_inForce_18 rfl rfl rfl ?_
        refine dk_icmp_gt (tgt := 43) (pc' := 22) hE dX11_inForce_19 (by decide) rfl (fun hc4 => ?_) (fun hc4 => ?_)
        · skip
          obtain ⟨v5, hv5⟩ : ∃ z : Int, z = i + 1 := ⟨_, rfl⟩
          refine dk_iinc (pc' := 46) (ls' := [(4, 141), (0, d), (0, m), (0, v5)]) hE dX11_inForce_43 rfl hv5.symm (by omega) rfl (by decide) rfl ?_
          refine dk_goto (tgt := 4) hE dX11_inForce_46 (by decide) ?_
          exact ih4 m v5 σ4c (by omega) (fun k_ j_ h_ => by rw [hF4 k_ j_ not_false]) (by omega) (by omega)
        · skip
          refine dk_iload_n (pc' := 23) hE dX11_inForce_22 rfl rfl rfl ?_
          refine dk_if_lt (tgt := 41) (pc' := 26) hE dX11_inForce_23 (by decide) rfl (fun hc6 => ?_) (fun hc6 => ?_)
          · skip
            refine dk_iload_n (pc' := 42) hE dX11_inForce_41 rfl rfl rfl ?_
            refine dk_istore_n (pc' := 43) (ls' := [(4, 141), (0, d), (0, i), (0, i)]) hE dX11_inForce_42 rfl rfl (by decide) rfl ?_
            obtain ⟨v7, hv7⟩ : ∃ z : Int, z = i + 1 := ⟨_, rfl⟩
            refine dk_iinc (pc' := 46) (ls' := [(4, 141), (0, d), (0, i), (0, v7)]) hE dX11_inForce_43 rfl hv7.symm (by omega) rfl (by decide) rfl ?_
            refine dk_goto (tgt := 4) hE dX11_inForce_46 (by decide) ?_
            exact ih4 i v7 σ4c (by omega) (fun k_ j_ h_ => by rw [hF4 k_ j_ not_false]) (by omega) (by omega)
          · skip
            refine dk_aload_n (pc' := 27) hE dX11_inForce_26 rfl rfl rfl ?_
            refine gf_11_32 (pc' := 30) (w := 161) hE fl_X11_74 dX11_inForce_27 is_141 rfl rfl ?_
            refine dk_iload_n (pc' := 31) hE dX11_inForce_30 rfl rfl rfl ?_
            refine ga_89 (pc' := 32) hE dX11_inForce_31 is_161 (by omega) rfl (fun v8 hv8 htv8 hbv8 => ?_)
            have hq8 : v3 = v8 := (show v8 = v3 by rw [hv8, hv3]).symm
            subst hq8
            clear htv8 hbv8
            refine dk_aload_n (pc' := 33) hE dX11_inForce_32 rfl rfl rfl ?_
            refine gf_11_32 (pc' := 36) (w := 161) hE fl_X11_74 dX11_inForce_33 is_141 rfl rfl ?_
            refine dk_iload_n (pc' := 37) hE dX11_inForce_36 rfl rfl rfl ?_
            refine ga_89 (pc' := 38) hE dX11_inForce_37 is_161 (by omega) rfl (fun v9 hv9 htv9 hbv9 => ?_)
            refine dk_icmp_lt (tgt := 43) (pc' := 41) hE dX11_inForce_38 (by decide) rfl (fun hc10 => ?_) (fun hc10 => ?_)
            · skip
              obtain ⟨v11, hv11⟩ : ∃ z : Int, z = i + 1 := ⟨_, rfl⟩
              refine dk_iinc (pc' := 46) (ls' := [(4, 141), (0, d), (0, m), (0, v11)]) hE dX11_inForce_43 rfl hv11.symm (by omega) rfl (by decide) rfl ?_
              refine dk_goto (tgt := 4) hE dX11_inForce_46 (by decide) ?_
              exact ih4 m v11 σ4c (by omega) (fun k_ j_ h_ => by rw [hF4 k_ j_ not_false]) (by omega) (by omega)
            · skip
              refine dk_iload_n (pc' := 42) hE dX11_inForce_41 rfl rfl rfl ?_
              refine dk_istore_n (pc' := 43) (ls' := [(4, 141), (0, d), (0, i), (0, i)]) hE dX11_inForce_42 rfl rfl (by decide) rfl ?_
              obtain ⟨v12, hv12⟩ : ∃ z : Int, z = i + 1 := ⟨_, rfl⟩
              refine dk_iinc (pc' := 46) (ls' := [(4, 141), (0, d), (0, i), (0, v12)]) hE dX11_inForce_43 rfl hv12.symm (by omega) rfl (by decide) rfl ?_
              refine dk_goto (tgt := 4) hE dX11_inForce_46 (by decide) ?_
              exact ih4 i v12 σ4c (by omega) (fun k_ j_ h_ => by rw [hF4 k_ j_ not_false]) (by omega) (by omega)
  exact lp4 _ (-1) 0 σ (Nat.lt_succ_self _) (fun k_ j_ h_ => rfl) (by omega) (by omega)
set_option maxHeartbeats 4000000 in
set_option maxRecDepth 20000 in
theorem ct_X11_rehearse (l : Launch) (G : dkG) (hGd : dk_Gd G) (w d : Int) : dk_Ct l G dk_Ty yX11_rehearse cX11_rehearse 3 (some .int) 3 190 190 (fun av σ => av = [(4, 141), (0, w), (0, d)]) (fun _ σ r_ σ' => ∃ z : Int, r_ = some (0, z) ∧ (∀ k_ j_ : Int, ¬ ((k_ = 141 ∧ j_ = 79) ∨ (184 ≤ k_ ∧ k_ ≤ 185)) → σ' k_ j_ = σ k_ j_) ∧ (True)) := by
  refine dk_enter hGd (by decide) (fun av σ hpre hok => ?_)
  subst hpre
  refine ⟨Nat.le_of_ble_eq_true rfl, fun E hE hR _ => ?_⟩
  have hi_w : dk_i32 w := dk_oki (hok _ (by simp))
  have hi_d : dk_i32 d := dk_oki (hok _ (by simp))
  show dk_PJ E 0 [(4, 141), (0, w), (0, d)] [] 190 σ
  refine dk_aload_n (pc' := 1) hE dX11_rehearse_0 rfl rfl rfl ?_
  refine dk_iload_n (pc' := 2) hE dX11_rehearse_1 rfl rfl rfl ?_
  refine dk_cV (pc' := 5) (as := [(0, w)]) hE lk_X11_359 (ct_X11_isWork l G hGd w) dX11_rehearse_2 rfl is_141 rfl (by decide) (Nat.le_of_ble_eq_true rfl) rfl rfl (fun r2 σ1 hr2 hor2 => ?_)
  obtain ⟨v3, rfl, hfσ1, hpr2⟩ := hr2
  have hsσ1 : σ = σ1 := (funext (fun k => funext (fun j => hfσ1 k j not_false))).symm
  subst hsσ1
  rcases hpr2 with ⟨rfl, hpr2⟩ | rfl
  · skip
    refine dk_if_eq (tgt := 24) (pc' := 8) hE dX11_rehearse_5 (by decide) rfl (fun hc4 => absurd hc4 (by decide)) (fun hc4 => ?_)
    refine dk_iload_n (pc' := 9) hE dX11_rehearse_8 rfl rfl rfl ?_
    refine dk_cS (pc' := 12) (as := [(0, d)]) hE lk_X11_371 (ct_X11_isDay l G hGd d) dX11_rehearse_9 rfl rfl (by decide) (Nat.le_of_ble_eq_true rfl) rfl rfl (fun r6 σ5 hr6 hor6 => ?_)
    obtain ⟨v7, rfl, hfσ5, hpr6⟩ := hr6
    have hsσ5 : σ = σ5 := (funext (fun k => funext (fun j => hfσ5 k j not_false))).symm
    subst hsσ5
    rcases hpr6 with ⟨rfl, hpr6⟩ | ⟨rfl, hpr6⟩
    · skip
      refine dk_if_eq (tgt := 24) (pc' := 15) hE dX11_rehearse_12 (by decide) rfl (fun hc8 => absurd hc8 (by decide)) (fun hc8 => ?_)
      refine dk_aload_n (pc' := 16) hE dX11_rehearse_15 rfl rfl rfl ?_
      refine gf_11_79 (pc' := 19) hE fl_X11_278 dX11_rehearse_16 is_141 rfl (fun v9 hv9 htv9 hbv9 => ?_)
      refine dk_bipush (pc' := 21) hE dX11_rehearse_19 (by decide) rfl ?_
      refine dk_icmp_ne (tgt := 26) (pc' := 24) hE dX11_rehearse_21 (by decide) rfl (fun hc10 => ?_) (fun hc10 => ?_)
      · skip
        refine dk_aload_n (pc' := 27) hE dX11_rehearse_26 rfl rfl rfl ?_
        refine gf_11_73 (pc' := 30) (w := 184) hE fl_X11_143 dX11_rehearse_27 is_141 rfl rfl ?_
        refine dk_aload_n (pc' := 31) hE dX11_rehearse_30 rfl rfl rfl ?_
        refine gf_11_79 (pc' := 34) hE fl_X11_278 dX11_rehearse_31 is_141 rfl (fun v11 hv11 htv11 hbv11 => ?_)
        have hq11 : v9 = v11 := (show v11 = v9 by rw [hv11, hv9]).symm
        subst hq11
        clear htv11 hbv11
        refine dk_iload_n (pc' := 35) hE dX11_rehearse_34 rfl rfl rfl ?_
        refine pa_112 (pc' := 36) hE dX11_rehearse_35 is_184 (by omega) (by omega) rfl (fun σ12 eσ12 => ?_)
        refine dk_aload_n (pc' := 37) hE dX11_rehearse_36 rfl rfl rfl ?_
        refine gf_11_74 (pc' := 40) (w := 185) hE fl_X11_146 dX11_rehearse_37 is_141 rfl rfl ?_
        refine dk_aload_n (pc' := 41) hE dX11_rehearse_40 rfl rfl rfl ?_
        refine gf_11_79 (pc' := 44) hE fl_X11_278 dX11_rehearse_41 is_141 rfl (fun v13 hv13 htv13 hbv13 => ?_)
        have hq13 : v9 = v13 := (show v13 = v9 by rw [hv13, eσ12, dk_up_n (show ¬ (141 = 184 ∧ 79 = v9) by omega), hv11]).symm
        subst hq13
        clear htv13 hbv13
        refine dk_iload_n (pc' := 45) hE dX11_rehearse_44 rfl rfl rfl ?_
        refine pa_113 (pc' := 46) hE dX11_rehearse_45 is_185 (by omega) (by omega) rfl (fun σ14 eσ14 => ?_)
        refine dk_aload_n (pc' := 47) hE dX11_rehearse_46 rfl rfl rfl ?_
        refine dk_dup (pc' := 48) hE dX11_rehearse_47 (show (4 : Nat) ≠ 3 by decide) rfl ?_
        refine gf_11_79 (pc' := 51) hE fl_X11_278 dX11_rehearse_48 is_141 rfl (fun v15 hv15 htv15 hbv15 => ?_)
        have hq15 : v9 = v15 := (show v15 = v9 by rw [hv15, eσ14, dk_up_n (show ¬ (141 = 185 ∧ 79 = v9) by omega), hv13]).symm
        subst hq15
        clear htv15 hbv15
        refine dk_iconst (pc' := 52) hE dX11_rehearse_51 (by decide) rfl ?_
        obtain ⟨v16, hv16⟩ : ∃ z : Int, z = v9 + 1 := ⟨_, rfl⟩
        refine dk_iadd (pc' := 53) hE dX11_rehearse_52 hv16.symm (by omega) rfl ?_
        refine pf_11_79 (pc' := 56) hE fl_X11_278 dX11_rehearse_53 is_141 (by omega) rfl (fun σ17 eσ17 => ?_)
        refine dk_aload_n (pc' := 57) hE dX11_rehearse_56 rfl rfl rfl ?_
        refine gf_11_79 (pc' := 60) hE fl_X11_278 dX11_rehearse_57 is_141 rfl (fun v18 hv18 htv18 hbv18 => ?_)
        have hq18 : v16 = v18 := (show v18 = v16 by rw [hv18, eσ17, dk_up_s]).symm
        subst hq18
        clear htv18 hbv18
        refine dk_iconst (pc' := 61) hE dX11_rehearse_60 (by decide) rfl ?_
        obtain ⟨v19, hv19⟩ : ∃ z : Int, z = v16 - 1 := ⟨_, rfl⟩
        refine dk_isub (pc' := 62) hE dX11_rehearse_61 hv19.symm (by omega) rfl ?_
        exact dk_iret (st := []) hE hR dX11_rehearse_62 ⟨_, rfl, (fun k_ j_ h_ => by rw [eσ17, dk_up_n (show ¬ (k_ = 141 ∧ j_ = 79) from fun q_ => h_ (Or.inl (q_))), eσ14, dk_up_n (show ¬ (k_ = 185 ∧ j_ = v9) from fun q_ => h_ (Or.inr (dk_wr (lo := 184) (hi := 185) q_.1 (by decide)))), eσ12, dk_up_n (show ¬ (k_ = 184 ∧ j_ = v9) from fun q_ => h_ (Or.inr (dk_wr (lo := 184) (hi := 185) q_.1 (by decide))))]), trivial⟩
      · skip
        refine dk_iconst (pc' := 25) hE dX11_rehearse_24 (by decide) rfl ?_
        exact dk_iret (st := []) hE hR dX11_rehearse_25 ⟨_, rfl, (fun k_ j_ h_ => rfl), trivial⟩
    · skip
      refine dk_if_eq (tgt := 24) (pc' := 15) hE dX11_rehearse_12 (by decide) rfl (fun hc20 => ?_) (fun hc20 => absurd hc20 (by decide))
      refine dk_iconst (pc' := 25) hE dX11_rehearse_24 (by decide) rfl ?_
      exact dk_iret (st := []) hE hR dX11_rehearse_25 ⟨_, rfl, (fun k_ j_ h_ => rfl), trivial⟩
  · skip
    refine dk_if_eq (tgt := 24) (pc' := 8) hE dX11_rehearse_5 (by decide) rfl (fun hc21 => ?_) (fun hc21 => absurd hc21 (by decide))
    refine dk_iconst (pc' := 25) hE dX11_rehearse_24 (by decide) rfl ?_
    exact dk_iret (st := []) hE hR dX11_rehearse_25 ⟨_, rfl, (fun k_ j_ h_ => rfl), trivial⟩
set_option maxHeartbeats 4000000 in
set_option maxRecDepth 20000 in
theorem ct_X11_bitsOf (l : Launch) (G : dkG) (hGd : dk_Gd G) (a : Int) : dk_Ct l G dk_Ty yX11_bitsOf cX11_bitsOf 3 (some .int) 1 190 190 (fun av σ => av = [(0, a)]) (fun _ σ r_ σ' => ∃ z : Int, r_ = some (0, z) ∧ (∀ k_ j_ : Int, ¬ (False) → σ' k_ j_ = σ k_ j_) ∧ (True)) := by
  refine dk_enter hGd (by decide) (fun av σ hpre hok => ?_)
  subst hpre
  refine ⟨Nat.le_of_ble_eq_true rfl, fun E hE hR _ => ?_⟩
  have hi_a : dk_i32 a := dk_oki (hok _ (by simp))
  show dk_PJ E 0 [(0, a), (9, 0), (9, 0)] [] 190 σ
  refine dk_iconst (pc' := 1) hE dX11_bitsOf_0 (by decide) rfl ?_
  refine dk_istore_n (pc' := 2) (ls' := [(0, a), (0, 0), (9, 0)]) hE dX11_bitsOf_1 rfl rfl (by decide) rfl ?_
  refine dk_iconst (pc' := 3) hE dX11_bitsOf_2 (by decide) rfl ?_
  refine dk_istore_n (pc' := 4) (ls' := [(0, a), (0, 0), (0, 0)]) hE dX11_bitsOf_3 rfl rfl (by decide) rfl ?_
  have lp4 : ∀ (N_ : Nat) (m i : Int) (σ4c : dkS), (2147483648 - i).toNat < N_ → ((∀ k_ j_ : Int, ¬ (False) → σ4c k_ j_ = σ k_ j_)) → (0 ≤ i) → dk_PJ E 4 [(0, a), (0, m), (0, i)] [] 190 σ4c := by
    intro N4
    induction N4 with
    | zero => intro m i σ4c hm; exact absurd hm (Nat.not_lt_zero _)
    | succ N4 ih4 =>
      intro m i σ4c hm4 hF4 hi0
      refine dk_iload_n (pc' := 5) hE dX11_bitsOf_4 rfl rfl rfl ?_
      refine dk_bipush (pc' := 7) hE dX11_bitsOf_5 (by decide) rfl ?_
      refine dk_icmp_ge (tgt := 24) (pc' := 10) hE dX11_bitsOf_7 (by decide) rfl (fun hc1 => ?_) (fun hc1 => ?_)
      · skip
        refine dk_iload_n (pc' := 25) hE dX11_bitsOf_24 rfl rfl rfl ?_
        exact dk_iret (st := []) hE hR dX11_bitsOf_25 ⟨_, rfl, (fun k_ j_ h_ => by rw [hF4 k_ j_ not_false]), trivial⟩
      · skip
        refine dk_iload_n (pc' := 11) hE dX11_bitsOf_10 rfl rfl rfl ?_
        refine dk_iload_n (pc' := 12) hE dX11_bitsOf_11 rfl rfl rfl ?_
        refine dk_iload_n (pc' := 13) hE dX11_bitsOf_12 rfl rfl rfl ?_
        refine dk_ishr (pc' := 14) hE dX11_bitsOf_13 rfl (fun v2 hv2 ev2 => ?_)
        refine dk_iconst (pc' := 15) hE dX11_bitsOf_14 (by decide) rfl ?_
        refine dk_iand (pc' := 16) hE dX11_bitsOf_15 rfl (fun v3 hv3 ev3 => ?_)
        refine dk_iaddW (pc' := 17) hE dX11_bitsOf_16 rfl (fun v4 hv4 _ => ?_)
        refine dk_istore_n (pc' := 18) (ls' := [(0, a), (0, v4), (0, i)]) hE dX11_bitsOf_17 rfl rfl (by decide) rfl ?_
        obtain ⟨v5, hv5⟩ : ∃ z : Int, z = i + 1 := ⟨_, rfl⟩
        refine dk_iinc (pc' := 21) (ls' := [(0, a), (0, v4), (0, v5)]) hE dX11_bitsOf_18 rfl hv5.symm (by omega) rfl (by decide) rfl ?_
        refine dk_goto (tgt := 4) hE dX11_bitsOf_21 (by decide) ?_
        exact ih4 v4 v5 σ4c (by omega) (fun k_ j_ h_ => by rw [hF4 k_ j_ not_false]) (by omega)
  exact lp4 _ 0 0 σ (Nat.lt_succ_self _) (fun k_ j_ h_ => rfl) (by omega)
set_option maxHeartbeats 4000000 in
set_option maxRecDepth 20000 in
theorem ct_X11_livesBy (l : Launch) (G : dkG) (hGd : dk_Gd G) (a b : Int) : dk_Ct l G dk_Ty yX11_livesBy cX11_livesBy 7 (some .int) 3 190 190 (fun av σ => av = [(4, 141), (0, a), (0, b)]) (fun _ σ r_ σ' => ∃ z : Int, r_ = some (0, z) ∧ (∀ k_ j_ : Int, ¬ (False) → σ' k_ j_ = σ k_ j_) ∧ (0 ≤ z ∧ z ≤ 4)) := by
  refine dk_enter hGd (by decide) (fun av σ hpre hok => ?_)
  subst hpre
  refine ⟨Nat.le_of_ble_eq_true rfl, fun E hE hR _ => ?_⟩
  have hi_a : dk_i32 a := dk_oki (hok _ (by simp))
  have hi_b : dk_i32 b := dk_oki (hok _ (by simp))
  show dk_PJ E 0 [(4, 141), (0, a), (0, b), (9, 0), (9, 0), (9, 0), (9, 0)] [] 190 σ
  refine dk_iconst (pc' := 1) hE dX11_livesBy_0 (by decide) rfl ?_
  refine dk_istore_n (pc' := 2) (ls' := [(4, 141), (0, a), (0, b), (0, 0), (9, 0), (9, 0), (9, 0)]) hE dX11_livesBy_1 rfl rfl (by decide) rfl ?_
  refine dk_iconst (pc' := 3) hE dX11_livesBy_2 (by decide) rfl ?_
  refine dk_istore (pc' := 5) (ls' := [(4, 141), (0, a), (0, b), (0, 0), (0, 0), (9, 0), (9, 0)]) hE dX11_livesBy_3 rfl (by decide) rfl ?_
  have lp5 : ∀ (N_ : Nat) (m i : Int) (σ5c : dkS), (2147483648 - i).toNat < N_ → ((∀ k_ j_ : Int, ¬ (False) → σ5c k_ j_ = σ k_ j_)) → (0 ≤ i) → (0 ≤ m ∧ m ≤ i ∧ i ≤ 4) → dk_PJ E 5 [(4, 141), (0, a), (0, b), (0, m), (0, i), (9, 0), (9, 0)] [] 190 σ5c := by
    intro N5
    induction N5 with
    | zero => intro m i σ5c hm; exact absurd hm (Nat.not_lt_zero _)
    | succ N5 ih5 =>
      intro m i σ5c hm5 hF5 hi0 hm
      refine dk_iload (pc' := 7) hE dX11_livesBy_5 rfl rfl ?_
      refine dk_aload_n (pc' := 8) hE dX11_livesBy_7 rfl rfl rfl ?_
      refine dk_cV (pc' := 11) (as := []) hE lk_X11_327 (ct_X11_works0 l G hGd) dX11_livesBy_8 rfl is_141 rfl (by decide) (Nat.le_of_ble_eq_true rfl) rfl rfl (fun r2 σ1 hr2 hor2 => ?_)
      obtain ⟨v3, rfl, hfσ1, hpr2⟩ := hr2
      have hsσ1 : σ5c = σ1 := (funext (fun k => funext (fun j => hfσ1 k j not_false))).symm
      subst hsσ1
      refine dk_icmp_ge (tgt := 89) (pc' := 14) hE dX11_livesBy_11 (by decide) rfl (fun hc4 => ?_) (fun hc4 => ?_)
      · skip
        refine dk_iload_n (pc' := 90) hE dX11_livesBy_89 rfl rfl rfl ?_
        exact dk_iret (st := []) hE hR dX11_livesBy_90 ⟨_, rfl, (fun k_ j_ h_ => by rw [hF5 k_ j_ not_false]), by omega⟩
      · skip
        refine dk_iconst (pc' := 15) hE dX11_livesBy_14 (by decide) rfl ?_
        refine dk_istore (pc' := 17) (ls' := [(4, 141), (0, a), (0, b), (0, m), (0, i), (0, 1), (9, 0)]) hE dX11_livesBy_15 rfl (by decide) rfl ?_
        refine dk_iconst (pc' := 18) hE dX11_livesBy_17 (by decide) rfl ?_
        refine dk_istore (pc' := 20) (ls' := [(4, 141), (0, a), (0, b), (0, m), (0, i), (0, 1), (0, 0)]) hE dX11_livesBy_18 rfl (by decide) rfl ?_
        have lp20 : ∀ (N_ : Nat) (x p : Int) (σ20c : dkS), (2147483648 - p).toNat < N_ → ((∀ k_ j_ : Int, ¬ (False) → σ20c k_ j_ = σ5c k_ j_)) → (0 ≤ p) → dk_PJ E 20 [(4, 141), (0, a), (0, b), (0, m), (0, i), (0, x), (0, p)] [] 190 σ20c := by
          intro N20
          induction N20 with
          | zero => intro x p σ20c hm; exact absurd hm (Nat.not_lt_zero _)
          | succ N20 ih20 =>
            intro x p σ20c hm20 hF20 hp0
            refine dk_iload (pc' := 22) hE dX11_livesBy_20 rfl rfl ?_
            refine dk_aload_n (pc' := 23) hE dX11_livesBy_22 rfl rfl rfl ?_
            refine dk_cV (pc' := 26) (as := []) hE lk_X11_319 (ct_X11_parts l G hGd) dX11_livesBy_23 rfl is_141 rfl (by decide) (Nat.le_of_ble_eq_true rfl) rfl rfl (fun r6 σ5 hr6 hor6 => ?_)
            obtain ⟨v7, rfl, hfσ5, hpr6⟩ := hr6
            have hsσ5 : σ20c = σ5 := (funext (fun k => funext (fun j => hfσ5 k j not_false))).symm
            subst hsσ5
            refine dk_icmp_ge (tgt := 70) (pc' := 29) hE dX11_livesBy_26 (by decide) rfl (fun hc8 => ?_) (fun hc8 => ?_)
            · skip
              refine dk_iload_n (pc' := 71) hE dX11_livesBy_70 rfl rfl rfl ?_
              refine dk_iload (pc' := 73) hE dX11_livesBy_71 rfl rfl ?_
              refine dk_if_eq (tgt := 80) (pc' := 76) hE dX11_livesBy_73 (by decide) rfl (fun hc9 => ?_) (fun hc9 => ?_)
              · skip
                refine dk_iconst (pc' := 81) hE dX11_livesBy_80 (by decide) rfl ?_
                obtain ⟨v10, hv10⟩ : ∃ z : Int, z = m + 0 := ⟨_, rfl⟩
                refine dk_iadd (pc' := 82) hE dX11_livesBy_81 hv10.symm (by omega) rfl ?_
                refine dk_istore_n (pc' := 83) (ls' := [(4, 141), (0, a), (0, b), (0, v10), (0, i), (0, x), (0, p)]) hE dX11_livesBy_82 rfl rfl (by decide) rfl ?_
                obtain ⟨v11, hv11⟩ : ∃ z : Int, z = i + 1 := ⟨_, rfl⟩
                refine dk_iinc (pc' := 86) (ls' := [(4, 141), (0, a), (0, b), (0, v10), (0, v11), (0, x), (0, p)]) hE dX11_livesBy_83 rfl hv11.symm (by omega) rfl (by decide) rfl ?_
                refine dk_goto (tgt := 5) hE dX11_livesBy_86 (by decide) ?_
                refine dk_drop (ls' := [(4, 141), (0, a), (0, b), (0, v10), (0, v11), (9, 0), (9, 0)]) [true, true, true, true, true, false, false] rfl ?_
                exact ih5 v10 v11 σ20c (by omega) (fun k_ j_ h_ => by rw [hF20 k_ j_ not_false, hF5 k_ j_ not_false]) (by omega) (by omega)
              · skip
                refine dk_iconst (pc' := 77) hE dX11_livesBy_76 (by decide) rfl ?_
                refine dk_goto (tgt := 81) hE dX11_livesBy_77 (by decide) ?_
                obtain ⟨v12, hv12⟩ : ∃ z : Int, z = m + 1 := ⟨_, rfl⟩
                refine dk_iadd (pc' := 82) hE dX11_livesBy_81 hv12.symm (by omega) rfl ?_
                refine dk_istore_n (pc' := 83) (ls' := [(4, 141), (0, a), (0, b), (0, v12), (0, i), (0, x), (0, p)]) hE dX11_livesBy_82 rfl rfl (by decide) rfl ?_
                obtain ⟨v13, hv13⟩ : ∃ z : Int, z = i + 1 := ⟨_, rfl⟩
                refine dk_iinc (pc' := 86) (ls' := [(4, 141), (0, a), (0, b), (0, v12), (0, v13), (0, x), (0, p)]) hE dX11_livesBy_83 rfl hv13.symm (by omega) rfl (by decide) rfl ?_
                refine dk_goto (tgt := 5) hE dX11_livesBy_86 (by decide) ?_
                refine dk_drop (ls' := [(4, 141), (0, a), (0, b), (0, v12), (0, v13), (9, 0), (9, 0)]) [true, true, true, true, true, false, false] rfl ?_
                exact ih5 v12 v13 σ20c (by omega) (fun k_ j_ h_ => by rw [hF20 k_ j_ not_false, hF5 k_ j_ not_false]) (by omega) (by omega)
            · skip
              refine dk_iload (pc' := 31) hE dX11_livesBy_29 rfl rfl ?_
              refine dk_if_eq (tgt := 61) (pc' := 34) hE dX11_livesBy_31 (by decide) rfl (fun hc14 => ?_) (fun hc14 => ?_)
              · skip
                refine dk_iconst (pc' := 62) hE dX11_livesBy_61 (by decide) rfl ?_
                refine dk_istore (pc' := 64) (ls' := [(4, 141), (0, a), (0, b), (0, m), (0, i), (0, 0), (0, p)]) hE dX11_livesBy_62 rfl (by decide) rfl ?_
                obtain ⟨v15, hv15⟩ : ∃ z : Int, z = p + 1 := ⟨_, rfl⟩
                refine dk_iinc (pc' := 67) (ls' := [(4, 141), (0, a), (0, b), (0, m), (0, i), (0, 0), (0, v15)]) hE dX11_livesBy_64 rfl hv15.symm (by omega) rfl (by decide) rfl ?_
                refine dk_goto (tgt := 20) hE dX11_livesBy_67 (by decide) ?_
                exact ih20 0 v15 σ20c (by omega) (fun k_ j_ h_ => by rw [hF20 k_ j_ not_false]) (by omega)
              · skip
                refine dk_aload_n (pc' := 35) hE dX11_livesBy_34 rfl rfl rfl ?_
                refine dk_iload (pc' := 37) hE dX11_livesBy_35 rfl rfl ?_
                refine dk_cV (pc' := 40) (as := [(0, p)]) hE lk_X11_336 (ct_X11_workOf l G hGd p) dX11_livesBy_37 rfl is_141 rfl (by decide) (Nat.le_of_ble_eq_true rfl) ⟨rfl, (by omega)⟩ rfl (fun r17 σ16 hr17 hor17 => ?_)
                obtain ⟨v18, rfl, hfσ16, hpr17⟩ := hr17
                have hsσ16 : σ20c = σ16 := (funext (fun k => funext (fun j => hfσ16 k j not_false))).symm
                subst hsσ16
                refine dk_iload (pc' := 42) hE dX11_livesBy_40 rfl rfl ?_
                refine dk_icmp_ne (tgt := 57) (pc' := 45) hE dX11_livesBy_42 (by decide) rfl (fun hc19 => ?_) (fun hc19 => ?_)
                · skip
                  refine dk_iconst (pc' := 58) hE dX11_livesBy_57 (by decide) rfl ?_
                  refine dk_goto (tgt := 62) hE dX11_livesBy_58 (by decide) ?_
                  refine dk_istore (pc' := 64) (ls' := [(4, 141), (0, a), (0, b), (0, m), (0, i), (0, 1), (0, p)]) hE dX11_livesBy_62 rfl (by decide) rfl ?_
                  obtain ⟨v20, hv20⟩ : ∃ z : Int, z = p + 1 := ⟨_, rfl⟩
                  refine dk_iinc (pc' := 67) (ls' := [(4, 141), (0, a), (0, b), (0, m), (0, i), (0, 1), (0, v20)]) hE dX11_livesBy_64 rfl hv20.symm (by omega) rfl (by decide) rfl ?_
                  refine dk_goto (tgt := 20) hE dX11_livesBy_67 (by decide) ?_
                  exact ih20 1 v20 σ20c (by omega) (fun k_ j_ h_ => by rw [hF20 k_ j_ not_false]) (by omega)
                · skip
                  refine dk_iload_n (pc' := 46) hE dX11_livesBy_45 rfl rfl rfl ?_
                  refine dk_iload_n (pc' := 47) hE dX11_livesBy_46 rfl rfl rfl ?_
                  refine dk_ior (pc' := 48) hE dX11_livesBy_47 rfl (fun v21 hv21 ev21 => ?_)
                  refine dk_iload (pc' := 50) hE dX11_livesBy_48 rfl rfl ?_
                  refine dk_ishr (pc' := 51) hE dX11_livesBy_50 rfl (fun v22 hv22 ev22 => ?_)
                  refine dk_iconst (pc' := 52) hE dX11_livesBy_51 (by decide) rfl ?_
                  refine dk_iand (pc' := 53) hE dX11_livesBy_52 rfl (fun v23 hv23 ev23 => ?_)
                  refine dk_iconst (pc' := 54) hE dX11_livesBy_53 (by decide) rfl ?_
                  refine dk_icmp_ne (tgt := 61) (pc' := 57) hE dX11_livesBy_54 (by decide) rfl (fun hc24 => ?_) (fun hc24 => ?_)
                  · skip
                    refine dk_iconst (pc' := 62) hE dX11_livesBy_61 (by decide) rfl ?_
                    refine dk_istore (pc' := 64) (ls' := [(4, 141), (0, a), (0, b), (0, m), (0, i), (0, 0), (0, p)]) hE dX11_livesBy_62 rfl (by decide) rfl ?_
                    obtain ⟨v25, hv25⟩ : ∃ z : Int, z = p + 1 := ⟨_, rfl⟩
                    refine dk_iinc (pc' := 67) (ls' := [(4, 141), (0, a), (0, b), (0, m), (0, i), (0, 0), (0, v25)]) hE dX11_livesBy_64 rfl hv25.symm (by omega) rfl (by decide) rfl ?_
                    refine dk_goto (tgt := 20) hE dX11_livesBy_67 (by decide) ?_
                    exact ih20 0 v25 σ20c (by omega) (fun k_ j_ h_ => by rw [hF20 k_ j_ not_false]) (by omega)
                  · skip
                    refine dk_iconst (pc' := 58) hE dX11_livesBy_57 (by decide) rfl ?_
                    refine dk_goto (tgt := 62) hE dX11_livesBy_58 (by decide) ?_
                    refine dk_istore (pc' := 64) (ls' := [(4, 141), (0, a), (0, b), (0, m), (0, i), (0, 1), (0, p)]) hE dX11_livesBy_62 rfl (by decide) rfl ?_
                    obtain ⟨v26, hv26⟩ : ∃ z : Int, z = p + 1 := ⟨_, rfl⟩
                    refine dk_iinc (pc' := 67) (ls' := [(4, 141), (0, a), (0, b), (0, m), (0, i), (0, 1), (0, v26)]) hE dX11_livesBy_64 rfl hv26.symm (by omega) rfl (by decide) rfl ?_
                    refine dk_goto (tgt := 20) hE dX11_livesBy_67 (by decide) ?_
                    exact ih20 1 v26 σ20c (by omega) (fun k_ j_ h_ => by rw [hF20 k_ j_ not_false]) (by omega)
        exact lp20 _ 1 0 σ5c (Nat.lt_succ_self _) (fun k_ j_ h_ => rfl) (by omega)
  exact lp5 _ 0 0 σ (Nat.lt_succ_self _) (fun k_ j_ h_ => rfl) (by omega) (by omega)
set_option maxHeartbeats 4000000 in
set_option maxRecDepth 20000 in
theorem ct_X11_keptOn (l : Launch) (G : dkG) (hGd : dk_Gd G) (d k : Int) : dk_Ct l G dk_Ty yX11_keptOn cX11_keptOn 7 (some .int) 3 190 190 (fun av σ => av = [(4, 141), (0, d), (0, k)]) (fun _ σ r_ σ' => ∃ z : Int, r_ = some (0, z) ∧ (∀ k_ j_ : Int, ¬ (False) → σ' k_ j_ = σ k_ j_) ∧ (True)) := by
  refine dk_enter hGd (by decide) (fun av σ hpre hok => ?_)
  subst hpre
  refine ⟨Nat.le_of_ble_eq_true rfl, fun E hE hR _ => ?_⟩
  have hi_d : dk_i32 d := dk_oki (hok _ (by simp))
  have hi_k : dk_i32 k := dk_oki (hok _ (by simp))
  show dk_PJ E 0 [(4, 141), (0, d), (0, k), (9, 0), (9, 0), (9, 0), (9, 0)] [] 190 σ
  refine dk_iconst (pc' := 1) hE dX11_keptOn_0 (by decide) rfl ?_
  refine dk_istore_n (pc' := 2) (ls' := [(4, 141), (0, d), (0, k), (0, 0), (9, 0), (9, 0), (9, 0)]) hE dX11_keptOn_1 rfl rfl (by decide) rfl ?_
  refine dk_iconst (pc' := 3) hE dX11_keptOn_2 (by decide) rfl ?_
  refine dk_istore (pc' := 5) (ls' := [(4, 141), (0, d), (0, k), (0, 0), (0, 0), (9, 0), (9, 0)]) hE dX11_keptOn_3 rfl (by decide) rfl ?_
  have lp5 : ∀ (N_ : Nat) (m p : Int) (σ5c : dkS), (2147483648 - p).toNat < N_ → ((∀ k_ j_ : Int, ¬ (False) → σ5c k_ j_ = σ k_ j_)) → (0 ≤ p) → dk_PJ E 5 [(4, 141), (0, d), (0, k), (0, m), (0, p), (9, 0), (9, 0)] [] 190 σ5c := by
    intro N5
    induction N5 with
    | zero => intro m p σ5c hm; exact absurd hm (Nat.not_lt_zero _)
    | succ N5 ih5 =>
      intro m p σ5c hm5 hF5 hp0
      refine dk_iload (pc' := 7) hE dX11_keptOn_5 rfl rfl ?_
      refine dk_aload_n (pc' := 8) hE dX11_keptOn_7 rfl rfl rfl ?_
      refine dk_cV (pc' := 11) (as := []) hE lk_X11_319 (ct_X11_parts l G hGd) dX11_keptOn_8 rfl is_141 rfl (by decide) (Nat.le_of_ble_eq_true rfl) rfl rfl (fun r2 σ1 hr2 hor2 => ?_)
      obtain ⟨v3, rfl, hfσ1, hpr2⟩ := hr2
      have hsσ1 : σ5c = σ1 := (funext (fun k => funext (fun j => hfσ1 k j not_false))).symm
      subst hsσ1
      refine dk_icmp_ge (tgt := 103) (pc' := 14) hE dX11_keptOn_11 (by decide) rfl (fun hc4 => ?_) (fun hc4 => ?_)
      · skip
        refine dk_iload_n (pc' := 104) hE dX11_keptOn_103 rfl rfl rfl ?_
        exact dk_iret (st := []) hE hR dX11_keptOn_104 ⟨_, rfl, (fun k_ j_ h_ => by rw [hF5 k_ j_ not_false]), trivial⟩
      · skip
        refine dk_aload_n (pc' := 15) hE dX11_keptOn_14 rfl rfl rfl ?_
        refine gf_11_24 (pc' := 18) (w := 157) hE fl_X11_60 dX11_keptOn_15 is_141 rfl rfl ?_
        refine dk_aload_n (pc' := 19) hE dX11_keptOn_18 rfl rfl rfl ?_
        refine dk_iload (pc' := 21) hE dX11_keptOn_19 rfl rfl ?_
        refine dk_cV (pc' := 24) (as := [(0, p)]) hE lk_X11_330 (ct_X11_at0 l G hGd p) dX11_keptOn_21 rfl is_141 rfl (by decide) (Nat.le_of_ble_eq_true rfl) ⟨rfl, (by omega)⟩ rfl (fun r6 σ5 hr6 hor6 => ?_)
        obtain ⟨v7, rfl, hfσ5, hpr6⟩ := hr6
        have hsσ5 : σ5c = σ5 := (funext (fun k => funext (fun j => hfσ5 k j not_false))).symm
        subst hsσ5
        refine ga_85 (pc' := 25) hE dX11_keptOn_24 is_157 (by omega) rfl (fun v8 hv8 htv8 hbv8 => ?_)
        refine dk_istore (pc' := 27) (ls' := [(4, 141), (0, d), (0, k), (0, m), (0, p), (0, v8), (9, 0)]) hE dX11_keptOn_25 rfl (by decide) rfl ?_
        refine dk_iconst (pc' := 28) hE dX11_keptOn_27 (by decide) rfl ?_
        refine dk_istore (pc' := 30) (ls' := [(4, 141), (0, d), (0, k), (0, m), (0, p), (0, v8), (0, 0)]) hE dX11_keptOn_28 rfl (by decide) rfl ?_
        have lp30 : ∀ (N_ : Nat) (x b : Int) (σ30c : dkS), (2147483648 - b).toNat < N_ → ((∀ k_ j_ : Int, ¬ (False) → σ30c k_ j_ = σ5c k_ j_)) → (0 ≤ b) → dk_PJ E 30 [(4, 141), (0, d), (0, k), (0, m), (0, p), (0, x), (0, b)] [] 190 σ30c := by
          intro N30
          induction N30 with
          | zero => intro x b σ30c hm; exact absurd hm (Nat.not_lt_zero _)
          | succ N30 ih30 =>
            intro x b σ30c hm30 hF30 hb0
            refine dk_iload (pc' := 32) hE dX11_keptOn_30 rfl rfl ?_
            refine dk_aload_n (pc' := 33) hE dX11_keptOn_32 rfl rfl rfl ?_
            refine gf_11_52 (pc' := 36) hE fl_X11_416 dX11_keptOn_33 is_141 rfl (fun v9 hv9 htv9 hbv9 => ?_)
            refine dk_icmp_ge (tgt := 81) (pc' := 39) hE dX11_keptOn_36 (by decide) rfl (fun hc10 => ?_) (fun hc10 => ?_)
            · skip
              refine dk_iload_n (pc' := 82) hE dX11_keptOn_81 rfl rfl rfl ?_
              refine dk_iload (pc' := 84) hE dX11_keptOn_82 rfl rfl ?_
              refine dk_if_eq (tgt := 94) (pc' := 87) hE dX11_keptOn_84 (by decide) rfl (fun hc11 => ?_) (fun hc11 => ?_)
              · skip
                refine dk_iconst (pc' := 95) hE dX11_keptOn_94 (by decide) rfl ?_
                refine dk_ior (pc' := 96) hE dX11_keptOn_95 rfl (fun v12 hv12 ev12 => ?_)
                refine dk_istore_n (pc' := 97) (ls' := [(4, 141), (0, d), (0, k), (0, v12), (0, p), (0, x), (0, b)]) hE dX11_keptOn_96 rfl rfl (by decide) rfl ?_
                obtain ⟨v13, hv13⟩ : ∃ z : Int, z = p + 1 := ⟨_, rfl⟩
                refine dk_iinc (pc' := 100) (ls' := [(4, 141), (0, d), (0, k), (0, v12), (0, v13), (0, x), (0, b)]) hE dX11_keptOn_97 rfl hv13.symm (by omega) rfl (by decide) rfl ?_
                refine dk_goto (tgt := 5) hE dX11_keptOn_100 (by decide) ?_
                refine dk_drop (ls' := [(4, 141), (0, d), (0, k), (0, v12), (0, v13), (9, 0), (9, 0)]) [true, true, true, true, true, false, false] rfl ?_
                exact ih5 v12 v13 σ30c (by omega) (fun k_ j_ h_ => by rw [hF30 k_ j_ not_false, hF5 k_ j_ not_false]) (by omega)
              · skip
                refine dk_iconst (pc' := 88) hE dX11_keptOn_87 (by decide) rfl ?_
                refine dk_iload (pc' := 90) hE dX11_keptOn_88 rfl rfl ?_
                refine dk_ishl (pc' := 91) hE dX11_keptOn_90 rfl (fun v14 hv14 ev14 => ?_)
                refine dk_goto (tgt := 95) hE dX11_keptOn_91 (by decide) ?_
                refine dk_ior (pc' := 96) hE dX11_keptOn_95 rfl (fun v15 hv15 ev15 => ?_)
                refine dk_istore_n (pc' := 97) (ls' := [(4, 141), (0, d), (0, k), (0, v15), (0, p), (0, x), (0, b)]) hE dX11_keptOn_96 rfl rfl (by decide) rfl ?_
                obtain ⟨v16, hv16⟩ : ∃ z : Int, z = p + 1 := ⟨_, rfl⟩
                refine dk_iinc (pc' := 100) (ls' := [(4, 141), (0, d), (0, k), (0, v15), (0, v16), (0, x), (0, b)]) hE dX11_keptOn_97 rfl hv16.symm (by omega) rfl (by decide) rfl ?_
                refine dk_goto (tgt := 5) hE dX11_keptOn_100 (by decide) ?_
                refine dk_drop (ls' := [(4, 141), (0, d), (0, k), (0, v15), (0, v16), (9, 0), (9, 0)]) [true, true, true, true, true, false, false] rfl ?_
                exact ih5 v15 v16 σ30c (by omega) (fun k_ j_ h_ => by rw [hF30 k_ j_ not_false, hF5 k_ j_ not_false]) (by omega)
            · skip
              refine dk_iload (pc' := 41) hE dX11_keptOn_39 rfl rfl ?_
              refine dk_if_ne (tgt := 81) (pc' := 44) hE dX11_keptOn_41 (by decide) rfl (fun hc17 => ?_) (fun hc17 => ?_)
              · skip
                refine dk_iload_n (pc' := 82) hE dX11_keptOn_81 rfl rfl rfl ?_
                refine dk_iload (pc' := 84) hE dX11_keptOn_82 rfl rfl ?_
                refine dk_if_eq (tgt := 94) (pc' := 87) hE dX11_keptOn_84 (by decide) rfl (fun hc18 => ?_) (fun hc18 => ?_)
                · skip
                  refine dk_iconst (pc' := 95) hE dX11_keptOn_94 (by decide) rfl ?_
                  refine dk_ior (pc' := 96) hE dX11_keptOn_95 rfl (fun v19 hv19 ev19 => ?_)
                  refine dk_istore_n (pc' := 97) (ls' := [(4, 141), (0, d), (0, k), (0, v19), (0, p), (0, x), (0, b)]) hE dX11_keptOn_96 rfl rfl (by decide) rfl ?_
                  obtain ⟨v20, hv20⟩ : ∃ z : Int, z = p + 1 := ⟨_, rfl⟩
                  refine dk_iinc (pc' := 100) (ls' := [(4, 141), (0, d), (0, k), (0, v19), (0, v20), (0, x), (0, b)]) hE dX11_keptOn_97 rfl hv20.symm (by omega) rfl (by decide) rfl ?_
                  refine dk_goto (tgt := 5) hE dX11_keptOn_100 (by decide) ?_
                  refine dk_drop (ls' := [(4, 141), (0, d), (0, k), (0, v19), (0, v20), (9, 0), (9, 0)]) [true, true, true, true, true, false, false] rfl ?_
                  exact ih5 v19 v20 σ30c (by omega) (fun k_ j_ h_ => by rw [hF30 k_ j_ not_false, hF5 k_ j_ not_false]) (by omega)
                · skip
                  refine dk_iconst (pc' := 88) hE dX11_keptOn_87 (by decide) rfl ?_
                  refine dk_iload (pc' := 90) hE dX11_keptOn_88 rfl rfl ?_
                  refine dk_ishl (pc' := 91) hE dX11_keptOn_90 rfl (fun v21 hv21 ev21 => ?_)
                  refine dk_goto (tgt := 95) hE dX11_keptOn_91 (by decide) ?_
                  refine dk_ior (pc' := 96) hE dX11_keptOn_95 rfl (fun v22 hv22 ev22 => ?_)
                  refine dk_istore_n (pc' := 97) (ls' := [(4, 141), (0, d), (0, k), (0, v22), (0, p), (0, x), (0, b)]) hE dX11_keptOn_96 rfl rfl (by decide) rfl ?_
                  obtain ⟨v23, hv23⟩ : ∃ z : Int, z = p + 1 := ⟨_, rfl⟩
                  refine dk_iinc (pc' := 100) (ls' := [(4, 141), (0, d), (0, k), (0, v22), (0, v23), (0, x), (0, b)]) hE dX11_keptOn_97 rfl hv23.symm (by omega) rfl (by decide) rfl ?_
                  refine dk_goto (tgt := 5) hE dX11_keptOn_100 (by decide) ?_
                  refine dk_drop (ls' := [(4, 141), (0, d), (0, k), (0, v22), (0, v23), (9, 0), (9, 0)]) [true, true, true, true, true, false, false] rfl ?_
                  exact ih5 v22 v23 σ30c (by omega) (fun k_ j_ h_ => by rw [hF30 k_ j_ not_false, hF5 k_ j_ not_false]) (by omega)
              · skip
                refine dk_aload_n (pc' := 45) hE dX11_keptOn_44 rfl rfl rfl ?_
                refine dk_iload (pc' := 47) hE dX11_keptOn_45 rfl rfl ?_
                refine dk_iload (pc' := 49) hE dX11_keptOn_47 rfl rfl ?_
                refine dk_iload_n (pc' := 50) hE dX11_keptOn_49 rfl rfl rfl ?_
                refine dk_iload_n (pc' := 51) hE dX11_keptOn_50 rfl rfl rfl ?_
                refine dk_cV (pc' := 54) (as := [(0, b), (0, p), (0, d), (0, k)]) hE lk_X11_468 (ct_X11_knowsIt l G hGd b p d k) dX11_keptOn_51 rfl is_141 rfl (by decide) (Nat.le_of_ble_eq_true rfl) rfl rfl (fun r25 σ24 hr25 hor25 => ?_)
                obtain ⟨v26, rfl, hfσ24, hpr25⟩ := hr25
                have hsσ24 : σ30c = σ24 := (funext (fun k => funext (fun j => hfσ24 k j not_false))).symm
                subst hsσ24
                refine dk_if_eq (tgt := 72) (pc' := 57) hE dX11_keptOn_54 (by decide) rfl (fun hc27 => ?_) (fun hc27 => ?_)
                · skip
                  refine dk_iconst (pc' := 73) hE dX11_keptOn_72 (by decide) rfl ?_
                  refine dk_istore (pc' := 75) (ls' := [(4, 141), (0, d), (0, k), (0, m), (0, p), (0, 0), (0, b)]) hE dX11_keptOn_73 rfl (by decide) rfl ?_
                  obtain ⟨v28, hv28⟩ : ∃ z : Int, z = b + 1 := ⟨_, rfl⟩
                  refine dk_iinc (pc' := 78) (ls' := [(4, 141), (0, d), (0, k), (0, m), (0, p), (0, 0), (0, v28)]) hE dX11_keptOn_75 rfl hv28.symm (by omega) rfl (by decide) rfl ?_
                  refine dk_goto (tgt := 30) hE dX11_keptOn_78 (by decide) ?_
                  exact ih30 0 v28 σ30c (by omega) (fun k_ j_ h_ => by rw [hF30 k_ j_ not_false]) (by omega)
                · skip
                  refine dk_aload_n (pc' := 58) hE dX11_keptOn_57 rfl rfl rfl ?_
                  refine dk_iload (pc' := 60) hE dX11_keptOn_58 rfl rfl ?_
                  refine dk_iload_n (pc' := 61) hE dX11_keptOn_60 rfl rfl rfl ?_
                  refine dk_iload_n (pc' := 62) hE dX11_keptOn_61 rfl rfl rfl ?_
                  refine dk_cV (pc' := 65) (as := [(0, b), (0, d), (0, k)]) hE lk_X11_474 (ct_X11_isGone l G hGd b d k) dX11_keptOn_62 rfl is_141 rfl (by decide) (Nat.le_of_ble_eq_true rfl) rfl rfl (fun r30 σ29 hr30 hor30 => ?_)
                  obtain ⟨v31, rfl, hfσ29, hpr30⟩ := hr30
                  have hsσ29 : σ30c = σ29 := (funext (fun k => funext (fun j => hfσ29 k j not_false))).symm
                  subst hsσ29
                  refine dk_if_ne (tgt := 72) (pc' := 68) hE dX11_keptOn_65 (by decide) rfl (fun hc32 => ?_) (fun hc32 => ?_)
                  · skip
                    refine dk_iconst (pc' := 73) hE dX11_keptOn_72 (by decide) rfl ?_
                    refine dk_istore (pc' := 75) (ls' := [(4, 141), (0, d), (0, k), (0, m), (0, p), (0, 0), (0, b)]) hE dX11_keptOn_73 rfl (by decide) rfl ?_
                    obtain ⟨v33, hv33⟩ : ∃ z : Int, z = b + 1 := ⟨_, rfl⟩
                    refine dk_iinc (pc' := 78) (ls' := [(4, 141), (0, d), (0, k), (0, m), (0, p), (0, 0), (0, v33)]) hE dX11_keptOn_75 rfl hv33.symm (by omega) rfl (by decide) rfl ?_
                    refine dk_goto (tgt := 30) hE dX11_keptOn_78 (by decide) ?_
                    exact ih30 0 v33 σ30c (by omega) (fun k_ j_ h_ => by rw [hF30 k_ j_ not_false]) (by omega)
                  · skip
                    refine dk_iconst (pc' := 69) hE dX11_keptOn_68 (by decide) rfl ?_
                    refine dk_goto (tgt := 73) hE dX11_keptOn_69 (by decide) ?_
                    refine dk_istore (pc' := 75) (ls' := [(4, 141), (0, d), (0, k), (0, m), (0, p), (0, 1), (0, b)]) hE dX11_keptOn_73 rfl (by decide) rfl ?_
                    obtain ⟨v34, hv34⟩ : ∃ z : Int, z = b + 1 := ⟨_, rfl⟩
                    refine dk_iinc (pc' := 78) (ls' := [(4, 141), (0, d), (0, k), (0, m), (0, p), (0, 1), (0, v34)]) hE dX11_keptOn_75 rfl hv34.symm (by omega) rfl (by decide) rfl ?_
                    refine dk_goto (tgt := 30) hE dX11_keptOn_78 (by decide) ?_
                    exact ih30 1 v34 σ30c (by omega) (fun k_ j_ h_ => by rw [hF30 k_ j_ not_false]) (by omega)
        exact lp30 _ v8 0 σ5c (Nat.lt_succ_self _) (fun k_ j_ h_ => rfl) (by omega)
  exact lp5 _ 0 0 σ (Nat.lt_succ_self _) (fun k_ j_ h_ => rfl) (by omega)
set_option maxHeartbeats 4000000 in
set_option maxRecDepth 20000 in
theorem ct_X11_live (l : Launch) (G : dkG) (hGd : dk_Gd G) (a d k : Int) : dk_Ct l G dk_Ty yX11_live cX11_live 4 (some .int) 4 190 190 (fun av σ => av = [(4, 141), (0, a), (0, d), (0, k)]) (fun _ σ r_ σ' => ∃ z : Int, r_ = some (0, z) ∧ (∀ k_ j_ : Int, ¬ (False) → σ' k_ j_ = σ k_ j_) ∧ (True)) := by
  refine dk_enter hGd (by decide) (fun av σ hpre hok => ?_)
  subst hpre
  refine ⟨Nat.le_of_ble_eq_true rfl, fun E hE hR _ => ?_⟩
  have hi_a : dk_i32 a := dk_oki (hok _ (by simp))
  have hi_d : dk_i32 d := dk_oki (hok _ (by simp))
  have hi_k : dk_i32 k := dk_oki (hok _ (by simp))
  show dk_PJ E 0 [(4, 141), (0, a), (0, d), (0, k)] [] 190 σ
  refine dk_iload_n (pc' := 1) hE dX11_live_0 rfl rfl rfl ?_
  refine dk_iconst (pc' := 2) hE dX11_live_1 (by decide) rfl ?_
  refine dk_iconst (pc' := 3) hE dX11_live_2 (by decide) rfl ?_
  refine dk_aload_n (pc' := 4) hE dX11_live_3 rfl rfl rfl ?_
  refine dk_cV (pc' := 7) (as := []) hE lk_X11_319 (ct_X11_parts l G hGd) dX11_live_4 rfl is_141 rfl (by decide) (Nat.le_of_ble_eq_true rfl) rfl rfl (fun r2 σ1 hr2 hor2 => ?_)
  obtain ⟨v3, rfl, hfσ1, hpr2⟩ := hr2
  have hsσ1 : σ = σ1 := (funext (fun k => funext (fun j => hfσ1 k j not_false))).symm
  subst hsσ1
  refine dk_ishl (pc' := 8) hE dX11_live_7 rfl (fun v4 hv4 ev4 => ?_)
  have hxv4 := dk_shl1 (b := v3) (by omega) ev4
  refine dk_iconst (pc' := 9) hE dX11_live_8 (by decide) rfl ?_
  obtain ⟨v5, hv5⟩ : ∃ z : Int, z = v4 - 1 := ⟨_, rfl⟩
  refine dk_isub (pc' := 10) hE dX11_live_9 hv5.symm (by omega) rfl ?_
  refine dk_cS (pc' := 13) (as := [(0, a), (0, 0), (0, v5)]) hE lk_X11_323 (ct_X11_isIn l G hGd a 0 v5) dX11_live_10 rfl rfl (by decide) (Nat.le_of_ble_eq_true rfl) rfl rfl (fun r7 σ6 hr7 hor7 => ?_)
  obtain ⟨v8, rfl, hfσ6, hpr7⟩ := hr7
  have hsσ6 : σ = σ6 := (funext (fun k => funext (fun j => hfσ6 k j not_false))).symm
  subst hsσ6
  rcases hpr7 with ⟨rfl, hpr7⟩ | ⟨rfl, hpr7⟩
  · skip
    refine dk_if_eq (tgt := 37) (pc' := 16) hE dX11_live_13 (by decide) rfl (fun hc9 => absurd hc9 (by decide)) (fun hc9 => ?_)
    refine dk_iload_n (pc' := 17) hE dX11_live_16 rfl rfl rfl ?_
    refine dk_cS (pc' := 20) (as := [(0, d)]) hE lk_X11_371 (ct_X11_isDay l G hGd d) dX11_live_17 rfl rfl (by decide) (Nat.le_of_ble_eq_true rfl) rfl rfl (fun r11 σ10 hr11 hor11 => ?_)
    obtain ⟨v12, rfl, hfσ10, hpr11⟩ := hr11
    have hsσ10 : σ = σ10 := (funext (fun k => funext (fun j => hfσ10 k j not_false))).symm
    subst hsσ10
    rcases hpr11 with ⟨rfl, hpr11⟩ | ⟨rfl, hpr11⟩
    · skip
      refine dk_if_eq (tgt := 37) (pc' := 23) hE dX11_live_20 (by decide) rfl (fun hc13 => absurd hc13 (by decide)) (fun hc13 => ?_)
      refine dk_aload_n (pc' := 24) hE dX11_live_23 rfl rfl rfl ?_
      refine dk_iload_n (pc' := 25) hE dX11_live_24 rfl rfl rfl ?_
      refine dk_aload_n (pc' := 26) hE dX11_live_25 rfl rfl rfl ?_
      refine dk_iload_n (pc' := 27) hE dX11_live_26 rfl rfl rfl ?_
      refine dk_iload_n (pc' := 28) hE dX11_live_27 rfl rfl rfl ?_
      refine dk_cV (pc' := 31) (as := [(0, d), (0, k)]) hE lk_X11_518 (ct_X11_keptOn l G hGd d k) dX11_live_28 rfl is_141 rfl (by decide) (Nat.le_of_ble_eq_true rfl) rfl rfl (fun r15 σ14 hr15 hor15 => ?_)
      obtain ⟨v16, rfl, hfσ14, hpr15⟩ := hr15
      have hkv16 := dk_oki (hor15 _ rfl)
      have hsσ14 : σ = σ14 := (funext (fun k => funext (fun j => hfσ14 k j not_false))).symm
      subst hsσ14
      refine dk_cV (pc' := 34) (as := [(0, a), (0, v16)]) hE lk_X11_521 (ct_X11_livesBy l G hGd a v16) dX11_live_31 rfl is_141 rfl (by decide) (Nat.le_of_ble_eq_true rfl) rfl rfl (fun r18 σ17 hr18 hor18 => ?_)
      obtain ⟨v19, rfl, hfσ17, hpr18⟩ := hr18
      have hsσ17 : σ = σ17 := (funext (fun k => funext (fun j => hfσ17 k j not_false))).symm
      subst hsσ17
      refine dk_goto (tgt := 38) hE dX11_live_34 (by decide) ?_
      exact dk_iret (st := []) hE hR dX11_live_38 ⟨_, rfl, (fun k_ j_ h_ => rfl), trivial⟩
    · skip
      refine dk_if_eq (tgt := 37) (pc' := 23) hE dX11_live_20 (by decide) rfl (fun hc20 => ?_) (fun hc20 => absurd hc20 (by decide))
      refine dk_iconst (pc' := 38) hE dX11_live_37 (by decide) rfl ?_
      exact dk_iret (st := []) hE hR dX11_live_38 ⟨_, rfl, (fun k_ j_ h_ => rfl), trivial⟩
  · skip
    refine dk_if_eq (tgt := 37) (pc' := 16) hE dX11_live_13 (by decide) rfl (fun hc21 => ?_) (fun hc21 => absurd hc21 (by decide))
    refine dk_iconst (pc' := 38) hE dX11_live_37 (by decide) rfl ?_
    exact dk_iret (st := []) hE hR dX11_live_38 ⟨_, rfl, (fun k_ j_ h_ => rfl), trivial⟩
set_option maxHeartbeats 4000000 in
set_option maxRecDepth 20000 in
theorem ct_X11_note (l : Launch) (G : dkG) (hGd : dk_Gd G) (a d k : Int) : dk_Ct l G dk_Ty yX11_note cX11_note 9 (some .int) 4 190 190 (fun av σ => av = [(4, 141), (0, a), (0, d), (0, k)]) (fun _ σ r_ σ' => ∃ z : Int, r_ = some (0, z) ∧ (∀ k_ j_ : Int, ¬ (False) → σ' k_ j_ = σ k_ j_) ∧ (True)) := by
  refine dk_enter hGd (by decide) (fun av σ hpre hok => ?_)
  subst hpre
  refine ⟨Nat.le_of_ble_eq_true rfl, fun E hE hR _ => ?_⟩
  have hi_a : dk_i32 a := dk_oki (hok _ (by simp))
  have hi_d : dk_i32 d := dk_oki (hok _ (by simp))
  have hi_k : dk_i32 k := dk_oki (hok _ (by simp))
  show dk_PJ E 0 [(4, 141), (0, a), (0, d), (0, k), (9, 0), (9, 0), (9, 0), (9, 0), (9, 0)] [] 190 σ
  refine dk_iload_n (pc' := 1) hE dX11_note_0 rfl rfl rfl ?_
  refine dk_iconst (pc' := 2) hE dX11_note_1 (by decide) rfl ?_
  refine dk_bipush (pc' := 4) hE dX11_note_2 (by decide) rfl ?_
  refine dk_cS (pc' := 7) (as := [(0, a), (0, 0), (0, 12)]) hE lk_X11_323 (ct_X11_isIn l G hGd a 0 12) dX11_note_4 rfl rfl (by decide) (Nat.le_of_ble_eq_true rfl) rfl rfl (fun r2 σ1 hr2 hor2 => ?_)
  obtain ⟨v3, rfl, hfσ1, hpr2⟩ := hr2
  have hsσ1 : σ = σ1 := (funext (fun k => funext (fun j => hfσ1 k j not_false))).symm
  subst hsσ1
  rcases hpr2 with ⟨rfl, hpr2⟩ | ⟨rfl, hpr2⟩
  · skip
    refine dk_if_eq (tgt := 17) (pc' := 10) hE dX11_note_7 (by decide) rfl (fun hc4 => absurd hc4 (by decide)) (fun hc4 => ?_)
    refine dk_iload_n (pc' := 11) hE dX11_note_10 rfl rfl rfl ?_
    refine dk_cS (pc' := 14) (as := [(0, d)]) hE lk_X11_371 (ct_X11_isDay l G hGd d) dX11_note_11 rfl rfl (by decide) (Nat.le_of_ble_eq_true rfl) rfl rfl (fun r6 σ5 hr6 hor6 => ?_)
    obtain ⟨v7, rfl, hfσ5, hpr6⟩ := hr6
    have hsσ5 : σ = σ5 := (funext (fun k => funext (fun j => hfσ5 k j not_false))).symm
    subst hsσ5
    rcases hpr6 with ⟨rfl, hpr6⟩ | ⟨rfl, hpr6⟩
    · skip
      refine dk_if_ne (tgt := 19) (pc' := 17) hE dX11_note_14 (by decide) rfl (fun hc8 => ?_) (fun hc8 => absurd hc8 (by decide))
      refine dk_aload_n (pc' := 20) hE dX11_note_19 rfl rfl rfl ?_
      refine dk_iload_n (pc' := 21) hE dX11_note_20 rfl rfl rfl ?_
      refine dk_iload_n (pc' := 22) hE dX11_note_21 rfl rfl rfl ?_
      refine dk_cV (pc' := 25) (as := [(0, d), (0, k)]) hE lk_X11_518 (ct_X11_keptOn l G hGd d k) dX11_note_22 rfl is_141 rfl (by decide) (Nat.le_of_ble_eq_true rfl) rfl rfl (fun r10 σ9 hr10 hor10 => ?_)
      obtain ⟨v11, rfl, hfσ9, hpr10⟩ := hr10
      have hkv11 := dk_oki (hor10 _ rfl)
      have hsσ9 : σ = σ9 := (funext (fun k => funext (fun j => hfσ9 k j not_false))).symm
      subst hsσ9
      refine dk_istore (pc' := 27) (ls' := [(4, 141), (0, a), (0, d), (0, k), (0, v11), (9, 0), (9, 0), (9, 0), (9, 0)]) hE dX11_note_25 rfl (by decide) rfl ?_
      refine dk_iconst (pc' := 28) hE dX11_note_27 (by decide) rfl ?_
      refine dk_istore (pc' := 30) (ls' := [(4, 141), (0, a), (0, d), (0, k), (0, v11), (0, 0), (9, 0), (9, 0), (9, 0)]) hE dX11_note_28 rfl (by decide) rfl ?_
      refine dk_aload_n (pc' := 31) hE dX11_note_30 rfl rfl rfl ?_
      refine dk_iconst (pc' := 32) hE dX11_note_31 (by decide) rfl ?_
      refine dk_iload (pc' := 34) hE dX11_note_32 rfl rfl ?_
      refine dk_cV (pc' := 37) (as := [(0, 0), (0, v11)]) hE lk_X11_521 (ct_X11_livesBy l G hGd 0 v11) dX11_note_34 rfl is_141 rfl (by decide) (Nat.le_of_ble_eq_true rfl) rfl rfl (fun r13 σ12 hr13 hor13 => ?_)
      obtain ⟨v14, rfl, hfσ12, hpr13⟩ := hr13
      have hsσ12 : σ = σ12 := (funext (fun k => funext (fun j => hfσ12 k j not_false))).symm
      subst hsσ12
      refine dk_istore (pc' := 39) (ls' := [(4, 141), (0, a), (0, d), (0, k), (0, v11), (0, 0), (0, v14), (9, 0), (9, 0)]) hE dX11_note_37 rfl (by decide) rfl ?_
      refine dk_iconst (pc' := 40) hE dX11_note_39 (by decide) rfl ?_
      refine dk_istore (pc' := 42) (ls' := [(4, 141), (0, a), (0, d), (0, k), (0, v11), (0, 0), (0, v14), (0, 1), (9, 0)]) hE dX11_note_40 rfl (by decide) rfl ?_
      have lp42 : ∀ (N_ : Nat) (m q i : Int) (σ42c : dkS), (2147483648 - i).toNat < N_ → ((∀ k_ j_ : Int, ¬ (False) → σ42c k_ j_ = σ k_ j_)) → (0 ≤ i) → dk_PJ E 42 [(4, 141), (0, a), (0, d), (0, k), (0, v11), (0, m), (0, q), (0, i), (9, 0)] [] 190 σ42c := by
        intro N42
        induction N42 with
        | zero => intro m q i σ42c hm; exact absurd hm (Nat.not_lt_zero _)
        | succ N42 ih42 =>
          intro m q i σ42c hm42 hF42 hi0
          refine dk_iload (pc' := 44) hE dX11_note_42 rfl rfl ?_
          refine dk_iconst (pc' := 45) hE dX11_note_44 (by decide) rfl ?_
          refine dk_aload_n (pc' := 46) hE dX11_note_45 rfl rfl rfl ?_
          refine dk_cV (pc' := 49) (as := []) hE lk_X11_319 (ct_X11_parts l G hGd) dX11_note_46 rfl is_141 rfl (by decide) (Nat.le_of_ble_eq_true rfl) rfl rfl (fun r16 σ15 hr16 hor16 => ?_)
          obtain ⟨v17, rfl, hfσ15, hpr16⟩ := hr16
          have hsσ15 : σ42c = σ15 := (funext (fun k => funext (fun j => hfσ15 k j not_false))).symm
          subst hsσ15
          refine dk_ishl (pc' := 50) hE dX11_note_49 rfl (fun v18 hv18 ev18 => ?_)
          have hxv18 := dk_shl1 (b := v17) (by omega) ev18
          refine dk_icmp_ge (tgt := 119) (pc' := 53) hE dX11_note_50 (by decide) rfl (fun hc19 => ?_) (fun hc19 => ?_)
          · skip
            refine dk_iload (pc' := 121) hE dX11_note_119 rfl rfl ?_
            exact dk_iret (st := []) hE hR dX11_note_121 ⟨_, rfl, (fun k_ j_ h_ => by rw [hF42 k_ j_ not_false]), trivial⟩
          · skip
            refine dk_iload (pc' := 55) hE dX11_note_53 rfl rfl ?_
            refine dk_cS (pc' := 58) (as := [(0, i)]) hE lk_X11_524 (ct_X11_bitsOf l G hGd i) dX11_note_55 rfl rfl (by decide) (Nat.le_of_ble_eq_true rfl) rfl rfl (fun r21 σ20 hr21 hor21 => ?_)
            obtain ⟨v22, rfl, hfσ20, hpr21⟩ := hr21
            have hkv22 := dk_oki (hor21 _ rfl)
            have hsσ20 : σ42c = σ20 := (funext (fun k => funext (fun j => hfσ20 k j not_false))).symm
            subst hsσ20
            refine dk_iload_n (pc' := 59) hE dX11_note_58 rfl rfl rfl ?_
            refine dk_icmp_le (tgt := 65) (pc' := 62) hE dX11_note_59 (by decide) rfl (fun hc23 => ?_) (fun hc23 => ?_)
            · skip
              refine dk_aload_n (pc' := 66) hE dX11_note_65 rfl rfl rfl ?_
              refine dk_iload (pc' := 68) hE dX11_note_66 rfl rfl ?_
              refine dk_iload (pc' := 70) hE dX11_note_68 rfl rfl ?_
              refine dk_cV (pc' := 73) (as := [(0, i), (0, v11)]) hE lk_X11_521 (ct_X11_livesBy l G hGd i v11) dX11_note_70 rfl is_141 rfl (by decide) (Nat.le_of_ble_eq_true rfl) rfl rfl (fun r25 σ24 hr25 hor25 => ?_)
              obtain ⟨v26, rfl, hfσ24, hpr25⟩ := hr25
              have hsσ24 : σ42c = σ24 := (funext (fun k => funext (fun j => hfσ24 k j not_false))).symm
              subst hsσ24
              refine dk_istore (pc' := 75) (ls' := [(4, 141), (0, a), (0, d), (0, k), (0, v11), (0, m), (0, q), (0, i), (0, v26)]) hE dX11_note_73 rfl (by decide) rfl ?_
              refine dk_iload (pc' := 77) hE dX11_note_75 rfl rfl ?_
              refine dk_iload (pc' := 79) hE dX11_note_77 rfl rfl ?_
              refine dk_icmp_lt (tgt := 113) (pc' := 82) hE dX11_note_79 (by decide) rfl (fun hc27 => ?_) (fun hc27 => ?_)
              · skip
                obtain ⟨v28, hv28⟩ : ∃ z : Int, z = i + 1 := ⟨_, rfl⟩
                refine dk_iinc (pc' := 116) (ls' := [(4, 141), (0, a), (0, d), (0, k), (0, v11), (0, m), (0, q), (0, v28), (0, v26)]) hE dX11_note_113 rfl hv28.symm (by omega) rfl (by decide) rfl ?_
                refine dk_goto (tgt := 42) hE dX11_note_116 (by decide) ?_
                refine dk_drop (ls' := [(4, 141), (0, a), (0, d), (0, k), (0, v11), (0, m), (0, q), (0, v28), (9, 0)]) [true, true, true, true, true, true, true, true, false] rfl ?_
                exact ih42 m q v28 σ42c (by omega) (fun k_ j_ h_ => by rw [hF42 k_ j_ not_false]) (by omega)
              · skip
                refine dk_iload (pc' := 84) hE dX11_note_82 rfl rfl ?_
                refine dk_iload (pc' := 86) hE dX11_note_84 rfl rfl ?_
                refine dk_icmp_ne (tgt := 105) (pc' := 89) hE dX11_note_86 (by decide) rfl (fun hc29 => ?_) (fun hc29 => ?_)
                · skip
                  refine dk_iload (pc' := 107) hE dX11_note_105 rfl rfl ?_
                  refine dk_istore (pc' := 109) (ls' := [(4, 141), (0, a), (0, d), (0, k), (0, v11), (0, i), (0, q), (0, i), (0, v26)]) hE dX11_note_107 rfl (by decide) rfl ?_
                  refine dk_iload (pc' := 111) hE dX11_note_109 rfl rfl ?_
                  refine dk_istore (pc' := 113) (ls' := [(4, 141), (0, a), (0, d), (0, k), (0, v11), (0, i), (0, v26), (0, i), (0, v26)]) hE dX11_note_111 rfl (by decide) rfl ?_
                  obtain ⟨v30, hv30⟩ : ∃ z : Int, z = i + 1 := ⟨_, rfl⟩
                  refine dk_iinc (pc' := 116) (ls' := [(4, 141), (0, a), (0, d), (0, k), (0, v11), (0, i), (0, v26), (0, v30), (0, v26)]) hE dX11_note_113 rfl hv30.symm (by omega) rfl (by decide) rfl ?_
                  refine dk_goto (tgt := 42) hE dX11_note_116 (by decide) ?_
                  refine dk_drop (ls' := [(4, 141), (0, a), (0, d), (0, k), (0, v11), (0, i), (0, v26), (0, v30), (9, 0)]) [true, true, true, true, true, true, true, true, false] rfl ?_
                  exact ih42 i v26 v30 σ42c (by omega) (fun k_ j_ h_ => by rw [hF42 k_ j_ not_false]) (by omega)
                · skip
                  refine dk_iload (pc' := 91) hE dX11_note_89 rfl rfl ?_
                  refine dk_cS (pc' := 94) (as := [(0, i)]) hE lk_X11_524 (ct_X11_bitsOf l G hGd i) dX11_note_91 rfl rfl (by decide) (Nat.le_of_ble_eq_true rfl) rfl rfl (fun r32 σ31 hr32 hor32 => ?_)
                  obtain ⟨v33, rfl, hfσ31, hpr32⟩ := hr32
                  have hkv33 := dk_oki (hor32 _ rfl)
                  have hsσ31 : σ42c = σ31 := (funext (fun k => funext (fun j => hfσ31 k j not_false))).symm
                  subst hsσ31
                  refine dk_iload (pc' := 96) hE dX11_note_94 rfl rfl ?_
                  refine dk_cS (pc' := 99) (as := [(0, m)]) hE lk_X11_524 (ct_X11_bitsOf l G hGd m) dX11_note_96 rfl rfl (by decide) (Nat.le_of_ble_eq_true rfl) rfl rfl (fun r35 σ34 hr35 hor35 => ?_)
                  obtain ⟨v36, rfl, hfσ34, hpr35⟩ := hr35
                  have hkv36 := dk_oki (hor35 _ rfl)
                  have hsσ34 : σ42c = σ34 := (funext (fun k => funext (fun j => hfσ34 k j not_false))).symm
                  subst hsσ34
                  refine dk_icmp_lt (tgt := 105) (pc' := 102) hE dX11_note_99 (by decide) rfl (fun hc37 => ?_) (fun hc37 => ?_)
                  · skip
                    refine dk_iload (pc' := 107) hE dX11_note_105 rfl rfl ?_
                    refine dk_istore (pc' := 109) (ls' := [(4, 141), (0, a), (0, d), (0, k), (0, v11), (0, i), (0, q), (0, i), (0, v26)]) hE dX11_note_107 rfl (by decide) rfl ?_
                    refine dk_iload (pc' := 111) hE dX11_note_109 rfl rfl ?_
                    refine dk_istore (pc' := 113) (ls' := [(4, 141), (0, a), (0, d), (0, k), (0, v11), (0, i), (0, v26), (0, i), (0, v26)]) hE dX11_note_111 rfl (by decide) rfl ?_
                    obtain ⟨v38, hv38⟩ : ∃ z : Int, z = i + 1 := ⟨_, rfl⟩
                    refine dk_iinc (pc' := 116) (ls' := [(4, 141), (0, a), (0, d), (0, k), (0, v11), (0, i), (0, v26), (0, v38), (0, v26)]) hE dX11_note_113 rfl hv38.symm (by omega) rfl (by decide) rfl ?_
                    refine dk_goto (tgt := 42) hE dX11_note_116 (by decide) ?_
                    refine dk_drop (ls' := [(4, 141), (0, a), (0, d), (0, k), (0, v11), (0, i), (0, v26), (0, v38), (9, 0)]) [true, true, true, true, true, true, true, true, false] rfl ?_
                    exact ih42 i v26 v38 σ42c (by omega) (fun k_ j_ h_ => by rw [hF42 k_ j_ not_false]) (by omega)
                  · skip
                    refine dk_goto (tgt := 113) hE dX11_note_102 (by decide) ?_
                    obtain ⟨v39, hv39⟩ : ∃ z : Int, z = i + 1 := ⟨_, rfl⟩
                    refine dk_iinc (pc' := 116) (ls' := [(4, 141), (0, a), (0, d), (0, k), (0, v11), (0, m), (0, q), (0, v39), (0, v26)]) hE dX11_note_113 rfl hv39.symm (by omega) rfl (by decide) rfl ?_
                    refine dk_goto (tgt := 42) hE dX11_note_116 (by decide) ?_
                    refine dk_drop (ls' := [(4, 141), (0, a), (0, d), (0, k), (0, v11), (0, m), (0, q), (0, v39), (9, 0)]) [true, true, true, true, true, true, true, true, false] rfl ?_
                    exact ih42 m q v39 σ42c (by omega) (fun k_ j_ h_ => by rw [hF42 k_ j_ not_false]) (by omega)
            · skip
              refine dk_goto (tgt := 113) hE dX11_note_62 (by decide) ?_
              obtain ⟨v40, hv40⟩ : ∃ z : Int, z = i + 1 := ⟨_, rfl⟩
              refine dk_iinc (pc' := 116) (ls' := [(4, 141), (0, a), (0, d), (0, k), (0, v11), (0, m), (0, q), (0, v40), (9, 0)]) hE dX11_note_113 rfl hv40.symm (by omega) rfl (by decide) rfl ?_
              refine dk_goto (tgt := 42) hE dX11_note_116 (by decide) ?_
              exact ih42 m q v40 σ42c (by omega) (fun k_ j_ h_ => by rw [hF42 k_ j_ not_false]) (by omega)
      exact lp42 _ 0 v14 1 σ (Nat.lt_succ_self _) (fun k_ j_ h_ => rfl) (by omega)
    · skip
      refine dk_if_ne (tgt := 19) (pc' := 17) hE dX11_note_14 (by decide) rfl (fun hc41 => absurd hc41 (by decide)) (fun hc41 => ?_)
      refine dk_iconst (pc' := 18) hE dX11_note_17 (by decide) rfl ?_
      exact dk_iret (st := []) hE hR dX11_note_18 ⟨_, rfl, (fun k_ j_ h_ => rfl), trivial⟩
  · skip
    refine dk_if_eq (tgt := 17) (pc' := 10) hE dX11_note_7 (by decide) rfl (fun hc42 => ?_) (fun hc42 => absurd hc42 (by decide))
    refine dk_iconst (pc' := 18) hE dX11_note_17 (by decide) rfl ?_
    exact dk_iret (st := []) hE hR dX11_note_18 ⟨_, rfl, (fun k_ j_ h_ => rfl), trivial⟩
