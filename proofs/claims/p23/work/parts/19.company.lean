theorem fpn19_0 {k j : Int} (h : k = 0) : ¬ sFP k j := by subst h; omega
theorem fpn19_1 {k j : Int} (h : k = 1) : ¬ sFP k j := by subst h; omega
theorem fpn19_8 {k j : Int} (h : k = 8) : ¬ sFP k j := by subst h; omega
theorem fpn19_37 {k j : Int} (h : k = 37) : ¬ sFP k j := by subst h; omega
theorem fpn19_45 {k j : Int} (h : k = 45) : ¬ sFP k j := by subst h; omega
theorem fpn19_75 {k j : Int} (h : k = 75) : ¬ sFP k j := by subst h; omega
theorem fpn19_88 {k j : Int} (h : k = 88) : ¬ sFP k j := by subst h; omega
theorem fpw19_1850366238 : ∀ k_ j_ : Int, sFP k_ j_ → ¬ ((46 ≤ k_ ∧ k_ ≤ 74)) := by intro k_ j_ h; omega
theorem fpw19_2034878306 : ∀ k_ j_ : Int, sFP k_ j_ → ¬ ((72 ≤ k_ ∧ k_ ≤ 73)) := by intro k_ j_ h; omega
theorem fpw19_769767720 : ∀ k_ j_ : Int, sFP k_ j_ → ¬ ((77 ≤ k_ ∧ k_ ≤ 84) ∨ (72 ≤ k_ ∧ k_ ≤ 73)) := by intro k_ j_ h; omega
theorem fpw19_3971855425 : ∀ k_ j_ : Int, sFP k_ j_ → ¬ ((k_ = 45 ∧ j_ = 9) ∨ (k_ = 45 ∧ j_ = 10) ∨ (k_ = 45 ∧ j_ = 11) ∨ (k_ = 45 ∧ j_ = 12) ∨ (46 ≤ k_ ∧ k_ ≤ 74)) := by intro k_ j_ h; omega
theorem fpw19_1016871983 : ∀ k_ j_ : Int, sFP k_ j_ → ¬ ((k_ = 45 ∧ j_ = 9) ∨ (k_ = 45 ∧ j_ = 10) ∨ (k_ = 45 ∧ j_ = 11) ∨ (k_ = 45 ∧ j_ = 12) ∨ (46 ≤ k_ ∧ k_ ≤ 74) ∨ (k_ = 75 ∧ j_ = 4) ∨ (k_ = 75 ∧ j_ = 5) ∨ (k_ = 75 ∧ j_ = 6) ∨ (k_ = 75 ∧ j_ = 7) ∨ (77 ≤ k_ ∧ k_ ≤ 87)) := by intro k_ j_ h; omega
theorem fpw19_3302796400 : ∀ k_ j_ : Int, sFP k_ j_ → ¬ ((k_ = 45 ∧ j_ = 9) ∨ (k_ = 45 ∧ j_ = 10) ∨ (k_ = 45 ∧ j_ = 11) ∨ (k_ = 45 ∧ j_ = 12) ∨ (46 ≤ k_ ∧ k_ ≤ 74) ∨ (k_ = 75 ∧ j_ = 4) ∨ (k_ = 75 ∧ j_ = 5) ∨ (k_ = 75 ∧ j_ = 6) ∨ (k_ = 75 ∧ j_ = 7) ∨ (77 ≤ k_ ∧ k_ ≤ 87) ∨ k_ = 91) := by intro k_ j_ h; omega
theorem fpw19_2838667018 : ∀ k_ j_ : Int, sFP k_ j_ → ¬ ((k_ = 8 ∧ j_ = 5) ∨ (k_ = 8 ∧ j_ = 6)) := by intro k_ j_ h; omega
theorem fpw19_3205328614 : ∀ k_ j_ : Int, sFP k_ j_ → ¬ (k_ = 6) := by intro k_ j_ h; omega
theorem fpw19_3236895349 : ∀ k_ j_ : Int, sFP k_ j_ → ¬ (k_ = 6 ∨ (k_ = 8 ∧ j_ = 2) ∨ (k_ = 8 ∧ j_ = 5) ∨ (k_ = 8 ∧ j_ = 6) ∨ k_ = 9) := by intro k_ j_ h; omega
theorem fpw19_1614500924 : ∀ k_ j_ : Int, sFP k_ j_ → ¬ (k_ = 6 ∨ (k_ = 8 ∧ j_ = 5) ∨ (k_ = 8 ∧ j_ = 6)) := by intro k_ j_ h; omega
set_option maxHeartbeats 4000000 in
set_option maxRecDepth 20000 in
theorem ct_X10_rulingInForce (l : Launch) (G : dkG) (hGd : dk_Gd G) (d : Int) : dk_Ct l G dk_Ty yX10_rulingInForce cX10_rulingInForce 5 (some (.object "DanceCompany$Ruling")) 1 190 190 (fun av σ => av = [(4, 0), (0, d)]) (fun _ σ r_ σ' => ∃ z : Int, r_ = some (4, z) ∧ (∀ k_ j_ : Int, ¬ (False) → σ' k_ j_ = σ k_ j_) ∧ (z = -1 ∨ dk_ru z)) := by
  refine dk_enter hGd (by decide) (fun av σ hpre hok => ?_)
  subst hpre
  refine ⟨Nat.le_of_ble_eq_true rfl, fun E hE hR _ => ?_⟩
  have hi_d : dk_i32 d := dk_oki (hok _ (by simp))
  show dk_PJ E 0 [(4, 0), (0, d), (9, 0), (9, 0), (9, 0)] [] 190 σ
  refine dk_null (pc' := 1) hE dX10_rulingInForce_0 rfl ?_
  refine dk_astore_n (pc' := 2) (ls' := [(4, 0), (0, d), (4, (-1)), (9, 0), (9, 0)]) hE dX10_rulingInForce_1 rfl rfl (by decide) rfl ?_
  refine dk_iconst (pc' := 3) hE dX10_rulingInForce_2 (by decide) rfl ?_
  refine dk_istore_n (pc' := 4) (ls' := [(4, 0), (0, d), (4, (-1)), (0, 0), (9, 0)]) hE dX10_rulingInForce_3 rfl rfl (by decide) rfl ?_
  have lp4 : ∀ (N_ : Nat) (q i : Int) (σ4c : dkS), (2147483648 - i).toNat < N_ → ((∀ k_ j_ : Int, ¬ (False) → σ4c k_ j_ = σ k_ j_)) → (0 ≤ i) → (q = -1 ∨ dk_ru q) → dk_PJ E 4 [(4, 0), (0, d), (4, q), (0, i), (9, 0)] [] 190 σ4c := by
    intro N4
    induction N4 with
    | zero => intro q i σ4c hm; exact absurd hm (Nat.not_lt_zero _)
    | succ N4 ih4 =>
      intro q i σ4c hm4 hF4 hi hq
      refine dk_iload_n (pc' := 5) hE dX10_rulingInForce_4 rfl rfl rfl ?_
      refine dk_aload_n (pc' := 6) hE dX10_rulingInForce_5 rfl rfl rfl ?_
      refine gf_10_11 (pc' := 9) hE fl_X10_89 dX10_rulingInForce_6 is_0 rfl (fun v1 hv1 htv1 hbv1 => ?_)
      refine dk_icmp_ge (tgt := 54) (pc' := 12) hE dX10_rulingInForce_9 (by decide) rfl (fun hc2 => ?_) (fun hc2 => ?_)
      · skip
        refine dk_aload_n (pc' := 55) hE dX10_rulingInForce_54 rfl rfl rfl ?_
        exact dk_aret (st := []) hE hR dX10_rulingInForce_55 ⟨_, rfl, (fun k_ j_ h_ => by rw [hF4 k_ j_ not_false]), by omega⟩
      · skip
        refine dk_aload_n (pc' := 13) hE dX10_rulingInForce_12 rfl rfl rfl ?_
        refine gf_10_4 (pc' := 16) (w := 12) hE fl_X10_46 dX10_rulingInForce_13 is_0 rfl rfl ?_
        refine dk_iload_n (pc' := 17) hE dX10_rulingInForce_16 rfl rfl rfl ?_
        refine ga_26 (pc' := 18) (w := (13 + 4 * i)) hE dX10_rulingInForce_17 is_12 (by omega) (by omega) rfl ?_
        refine dk_astore (pc' := 20) (ls' := [(4, 0), (0, d), (4, q), (0, i), (4, (13 + 4 * i))]) hE dX10_rulingInForce_18 rfl (by decide) rfl ?_
        refine dk_aload (pc' := 22) hE dX10_rulingInForce_20 rfl rfl ?_
        refine gf_3_4 (pc' := 25) hE fl_X10_137 dX10_rulingInForce_22 (ru_is (by omega)) rfl (fun v3 hv3 htv3 hbv3 => ?_)
        refine dk_iload_n (pc' := 26) hE dX10_rulingInForce_25 rfl rfl rfl ?_
        refine dk_icmp_gt (tgt := 48) (pc' := 29) hE dX10_rulingInForce_26 (by decide) rfl (fun hc4 => ?_) (fun hc4 => ?_)
        · skip
          obtain ⟨v5, hv5⟩ : ∃ z : Int, z = i + 1 := ⟨_, rfl⟩
          refine dk_iinc (pc' := 51) (ls' := [(4, 0), (0, d), (4, q), (0, v5), (4, (13 + 4 * i))]) hE dX10_rulingInForce_48 rfl hv5.symm (by omega) rfl (by decide) rfl ?_
          refine dk_goto (tgt := 4) hE dX10_rulingInForce_51 (by decide) ?_
          refine dk_drop (ls' := [(4, 0), (0, d), (4, q), (0, v5), (9, 0)]) [true, true, true, true, false] rfl ?_
          exact ih4 q v5 σ4c (by omega) (fun k_ j_ h_ => by rw [hF4 k_ j_ not_false]) (by omega) (by omega)
        · skip
          refine dk_aload_n (pc' := 30) hE dX10_rulingInForce_29 rfl rfl rfl ?_
          refine dk_ifnull (tgt := 45) (pc' := 33) hE dX10_rulingInForce_30 (by decide) rfl (fun hc6 => ?_) (fun hc6 => ?_)
          · skip
            refine dk_aload (pc' := 47) hE dX10_rulingInForce_45 rfl rfl ?_
            refine dk_astore_n (pc' := 48) (ls' := [(4, 0), (0, d), (4, (13 + 4 * i)), (0, i), (4, (13 + 4 * i))]) hE dX10_rulingInForce_47 rfl rfl (by decide) rfl ?_
            obtain ⟨v7, hv7⟩ : ∃ z : Int, z = i + 1 := ⟨_, rfl⟩
            refine dk_iinc (pc' := 51) (ls' := [(4, 0), (0, d), (4, (13 + 4 * i)), (0, v7), (4, (13 + 4 * i))]) hE dX10_rulingInForce_48 rfl hv7.symm (by omega) rfl (by decide) rfl ?_
            refine dk_goto (tgt := 4) hE dX10_rulingInForce_51 (by decide) ?_
            refine dk_drop (ls' := [(4, 0), (0, d), (4, (13 + 4 * i)), (0, v7), (9, 0)]) [true, true, true, true, false] rfl ?_
            exact ih4 (13 + 4 * i) v7 σ4c (by omega) (fun k_ j_ h_ => by rw [hF4 k_ j_ not_false]) (by omega) (by omega)
          · skip
            refine dk_aload (pc' := 35) hE dX10_rulingInForce_33 rfl rfl ?_
            refine gf_3_4 (pc' := 38) hE fl_X10_137 dX10_rulingInForce_35 (ru_is (by omega)) rfl (fun v8 hv8 htv8 hbv8 => ?_)
            have hq8 : v3 = v8 := (show v8 = v3 by rw [hv8, hv3]).symm
            subst hq8
            clear htv8 hbv8
            refine dk_aload_n (pc' := 39) hE dX10_rulingInForce_38 rfl rfl rfl ?_
            refine gf_3_4 (pc' := 42) hE fl_X10_137 dX10_rulingInForce_39 (ru_is (by omega)) rfl (fun v9 hv9 htv9 hbv9 => ?_)
            refine dk_icmp_lt (tgt := 48) (pc' := 45) hE dX10_rulingInForce_42 (by decide) rfl (fun hc10 => ?_) (fun hc10 => ?_)
            · skip
              obtain ⟨v11, hv11⟩ : ∃ z : Int, z = i + 1 := ⟨_, rfl⟩
              refine dk_iinc (pc' := 51) (ls' := [(4, 0), (0, d), (4, q), (0, v11), (4, (13 + 4 * i))]) hE dX10_rulingInForce_48 rfl hv11.symm (by omega) rfl (by decide) rfl ?_
              refine dk_goto (tgt := 4) hE dX10_rulingInForce_51 (by decide) ?_
              refine dk_drop (ls' := [(4, 0), (0, d), (4, q), (0, v11), (9, 0)]) [true, true, true, true, false] rfl ?_
              exact ih4 q v11 σ4c (by omega) (fun k_ j_ h_ => by rw [hF4 k_ j_ not_false]) (by omega) (by omega)
            · skip
              refine dk_aload (pc' := 47) hE dX10_rulingInForce_45 rfl rfl ?_
              refine dk_astore_n (pc' := 48) (ls' := [(4, 0), (0, d), (4, (13 + 4 * i)), (0, i), (4, (13 + 4 * i))]) hE dX10_rulingInForce_47 rfl rfl (by decide) rfl ?_
              obtain ⟨v12, hv12⟩ : ∃ z : Int, z = i + 1 := ⟨_, rfl⟩
              refine dk_iinc (pc' := 51) (ls' := [(4, 0), (0, d), (4, (13 + 4 * i)), (0, v12), (4, (13 + 4 * i))]) hE dX10_rulingInForce_48 rfl hv12.symm (by omega) rfl (by decide) rfl ?_
              refine dk_goto (tgt := 4) hE dX10_rulingInForce_51 (by decide) ?_
              refine dk_drop (ls' := [(4, 0), (0, d), (4, (13 + 4 * i)), (0, v12), (9, 0)]) [true, true, true, true, false] rfl ?_
              exact ih4 (13 + 4 * i) v12 σ4c (by omega) (fun k_ j_ h_ => by rw [hF4 k_ j_ not_false]) (by omega) (by omega)
  exact lp4 _ (-1) 0 σ (Nat.lt_succ_self _) (fun k_ j_ h_ => rfl) (by omega) (by omega)
set_option maxHeartbeats 4000000 in
set_option maxRecDepth 20000 in
theorem ct_X10_openDay (l : Launch) (G : dkG) (hGd : dk_Gd G) (d k s : Int) : dk_Ct l G dk_Ty yX10_openDay cX10_openDay 3 (none) 4 190 190 (fun av σ => av = [(4, 0), (0, d), (0, k)] ∧ (GI σ) ∧ (dk_sc s) ∧ (s = σ 0 9) ∧ (0 ≤ d ∧ d ≤ 999)) (fun _ σ r_ σ' => r_ = none ∧ (∀ k_ j_ : Int, ¬ ((k_ = 45 ∧ j_ = 9) ∨ (k_ = 45 ∧ j_ = 10) ∨ (k_ = 45 ∧ j_ = 11) ∨ (k_ = 45 ∧ j_ = 12) ∨ (46 ≤ k_ ∧ k_ ≤ 74)) → σ' k_ j_ = σ k_ j_) ∧ (σ' 45 9 = s)) := by
  refine dk_enter hGd (by decide) (fun av σ hpre hok => ?_)
  obtain ⟨rfl, hG, hs, h09, hd⟩ := hpre
  refine ⟨Nat.le_of_ble_eq_true rfl, fun E hE hR _ => ?_⟩
  have hi_d : dk_i32 d := dk_oki (hok _ (by simp))
  have hi_k : dk_i32 k := dk_oki (hok _ (by simp))
  show dk_PJ E 0 [(4, 0), (0, d), (0, k)] [] 190 σ
  refine dk_aload_n (pc' := 1) hE dX10_openDay_0 rfl rfl rfl ?_
  refine gf_10_6 (pc' := 4) (w := 45) hE fl_X10_61 dX10_openDay_1 is_0 rfl rfl ?_
  refine dk_aload_n (pc' := 5) hE dX10_openDay_4 rfl rfl rfl ?_
  refine gf_10_9 (pc' := 8) hE fl_X10_82 dX10_openDay_5 is_0 rfl (fun v1 hv1 htv1 hbv1 => ?_)
  have hq1 : s = v1 := (show v1 = s by rw [hv1, h09]).symm
  subst hq1
  clear htv1 hbv1
  refine dk_aload_n (pc' := 9) hE dX10_openDay_8 rfl rfl rfl ?_
  refine dk_iload_n (pc' := 10) hE dX10_openDay_9 rfl rfl rfl ?_
  refine dk_cV (pc' := 13) (as := [(0, d)]) hE lk_X10_329 (ct_X10_rulingInForce l G hGd d) dX10_openDay_10 rfl is_0 rfl (by decide) (Nat.le_of_ble_eq_true rfl) rfl rfl (fun r3 σ2 hr3 hor3 => ?_)
  obtain ⟨v4, rfl, hfσ2, hpr3⟩ := hr3
  have hsσ2 : σ = σ2 := (funext (fun k => funext (fun j => hfσ2 k j not_false))).symm
  subst hsσ2
  refine dk_aload_n (pc' := 14) hE dX10_openDay_13 rfl rfl rfl ?_
  refine gf_10_12 (pc' := 17) hE fl_X10_93 dX10_openDay_14 is_0 rfl (fun v5 hv5 htv5 hbv5 => ?_)
  refine dk_iload_n (pc' := 18) hE dX10_openDay_17 rfl rfl rfl ?_
  refine dk_cV (pc' := 21) (as := [(4, s), (4, v4), (0, v5), (0, d)]) hE lk_X10_333 (ct_X6_open l G hGd s v4 v5 d) dX10_openDay_18 rfl is_45 rfl (by decide) (Nat.le_of_ble_eq_true rfl) ⟨rfl, hG, (by omega), (by omega), (by omega), (by omega)⟩ rfl (fun r7 σ6 hr7 hor7 => ?_)
  obtain ⟨rfl, hfσ6, hpr7⟩ := hr7
  refine dk_aload_n (pc' := 22) hE dX10_openDay_21 rfl rfl rfl ?_
  refine gf_10_6 (pc' := 25) (w := 45) hE fl_X10_61 dX10_openDay_22 is_0 rfl rfl ?_
  refine dk_aload_n (pc' := 26) hE dX10_openDay_25 rfl rfl rfl ?_
  refine gf_10_5 (pc' := 29) (w := 37) hE fl_X10_54 dX10_openDay_26 is_0 rfl rfl ?_
  refine dk_iload_n (pc' := 30) hE dX10_openDay_29 rfl rfl rfl ?_
  refine dk_cV (pc' := 33) (as := [(4, 37), (0, k)]) hE lk_X10_337 (ct_X6_gather l G hGd k) dX10_openDay_30 rfl is_45 rfl (by decide) (Nat.le_of_ble_eq_true rfl) rfl rfl (fun r9 σ8 hr9 hor9 => ?_)
  obtain ⟨rfl, hfσ8, hpr9⟩ := hr9
  have hz10 : σ8 45 9 = s := by rw [hfσ8 45 9 (by omega), (hpr7.1).symm]
  exact dk_vret (st := []) hE hR dX10_openDay_33 ⟨rfl, (fun k_ j_ h_ => by rw [hfσ8 k_ j_ (fun w_ => h_ (Or.inr (Or.inr (Or.inr (Or.inr (w_)))))), hfσ6 k_ j_ (fun w_ => h_ (w_.elim (fun x0_ => Or.inl (x0_)) (fun y0_ => y0_.elim (fun x1_ => Or.inr (Or.inl (x1_))) (fun y1_ => y1_.elim (fun x2_ => Or.inr (Or.inr (Or.inl (x2_)))) (fun y2_ => y2_.elim (fun x3_ => Or.inr (Or.inr (Or.inr (Or.inl (x3_))))) (fun y3_ => Or.inr (Or.inr (Or.inr (Or.inr (y3_))))))))))]), by omega⟩
set_option maxHeartbeats 4000000 in
set_option maxRecDepth 20000 in
theorem ct_X10_findCast (l : Launch) (G : dkG) (hGd : dk_Gd G) (w d k s : Int) : dk_Ct l G dk_Ty yX10_findCast cX10_findCast 4 (some .boolean) 6 190 190 (fun av σ => av = [(4, 0), (0, w), (0, d), (0, k)] ∧ (GI σ) ∧ (dk_sc s) ∧ (s = σ 0 9) ∧ (0 ≤ w ∧ w < 4) ∧ (0 ≤ d ∧ d ≤ 999)) (fun _ σ r_ σ' => ∃ z : Int, r_ = some (0, z) ∧ (∀ k_ j_ : Int, ¬ ((k_ = 45 ∧ j_ = 9) ∨ (k_ = 45 ∧ j_ = 10) ∨ (k_ = 45 ∧ j_ = 11) ∨ (k_ = 45 ∧ j_ = 12) ∨ (46 ≤ k_ ∧ k_ ≤ 74) ∨ (k_ = 75 ∧ j_ = 4) ∨ (k_ = 75 ∧ j_ = 5) ∨ (k_ = 75 ∧ j_ = 6) ∨ (k_ = 75 ∧ j_ = 7) ∨ (77 ≤ k_ ∧ k_ ≤ 87)) → σ' k_ j_ = σ k_ j_) ∧ (0 ≤ z ∧ z ≤ 1)) := by
  refine dk_enter hGd (by decide) (fun av σ hpre hok => ?_)
  obtain ⟨rfl, hG, hs, h09, hw, hd⟩ := hpre
  refine ⟨Nat.le_of_ble_eq_true rfl, fun E hE hR _ => ?_⟩
  have hi_w : dk_i32 w := dk_oki (hok _ (by simp))
  have hi_d : dk_i32 d := dk_oki (hok _ (by simp))
  have hi_k : dk_i32 k := dk_oki (hok _ (by simp))
  show dk_PJ E 0 [(4, 0), (0, w), (0, d), (0, k)] [] 190 σ
  refine dk_aload_n (pc' := 1) hE dX10_findCast_0 rfl rfl rfl ?_
  refine dk_iload_n (pc' := 2) hE dX10_findCast_1 rfl rfl rfl ?_
  refine dk_iload_n (pc' := 3) hE dX10_findCast_2 rfl rfl rfl ?_
  have hz1 : σ 0 9 = s := by rw [h09]
  refine dk_cV (pc' := 6) (as := [(0, d), (0, k)]) hE lk_X10_225 (ct_X10_openDay l G hGd d k s) dX10_findCast_3 rfl is_0 rfl (by decide) (Nat.le_of_ble_eq_true rfl) ⟨rfl, hG, (by omega), (by omega), (by omega)⟩ rfl (fun r3 σ2 hr3 hor3 => ?_)
  obtain ⟨rfl, hfσ2, hpr3⟩ := hr3
  refine dk_aload_n (pc' := 7) hE dX10_findCast_6 rfl rfl rfl ?_
  refine gf_10_7 (pc' := 10) (w := 75) hE fl_X10_68 dX10_findCast_7 is_0 rfl rfl ?_
  refine dk_aload_n (pc' := 11) hE dX10_findCast_10 rfl rfl rfl ?_
  refine gf_10_6 (pc' := 14) (w := 45) hE fl_X10_61 dX10_findCast_11 is_0 rfl rfl ?_
  refine dk_iload_n (pc' := 15) hE dX10_findCast_14 rfl rfl rfl ?_
  have gi4 : GI σ2 := GI_fr hG (fun k_ j_ h_ => by rw [hfσ2 k_ j_ (fpw19_3971855425 k_ j_ h_)])
  have hz5 : σ2 45 9 = s := by rw [(hpr3).symm]
  refine dk_cV (pc' := 18) (as := [(4, 45), (0, w)]) hE lk_X10_341 (ct_X0_weigh l G hGd w s) dX10_findCast_15 rfl is_75 rfl (by decide) (Nat.le_of_ble_eq_true rfl) ⟨rfl, gi4, (by omega), (by omega), (by omega)⟩ rfl (fun r7 σ6 hr7 hor7 => ?_)
  obtain ⟨rfl, hfσ6, hpr7⟩ := hr7
  refine dk_aload_n (pc' := 19) hE dX10_findCast_18 rfl rfl rfl ?_
  refine gf_10_7 (pc' := 22) (w := 75) hE fl_X10_68 dX10_findCast_19 is_0 rfl rfl ?_
  refine dk_cV (pc' := 25) (as := []) hE lk_X10_345 (ct_X0_choose l G hGd) dX10_findCast_22 rfl is_75 rfl (by decide) (Nat.le_of_ble_eq_true rfl) rfl rfl (fun r9 σ8 hr9 hor9 => ?_)
  obtain ⟨v10, rfl, hfσ8, hpr9⟩ := hr9
  exact dk_zret (st := []) hE hR dX10_findCast_25 (by omega) ⟨_, rfl, (fun k_ j_ h_ => by rw [hfσ8 k_ j_ (fun w_ => h_ (w_.elim (fun x0_ => Or.inr (Or.inr (Or.inr (Or.inr (Or.inr (Or.inr (Or.inr (Or.inl (x0_))))))))) (fun y0_ => y0_.elim (fun x1_ => Or.inr (Or.inr (Or.inr (Or.inr (Or.inr (Or.inr (Or.inr (Or.inr (Or.inl (x1_)))))))))) (fun y1_ => y1_.elim (fun x2_ => Or.inr (Or.inr (Or.inr (Or.inr (Or.inr (Or.inr (Or.inr (Or.inr (Or.inr (dk_wr (lo := 77) (hi := 87) x2_ (by decide))))))))))) (fun y2_ => Or.inr (Or.inr (Or.inr (Or.inr (Or.inr (Or.inr (Or.inr (Or.inr (Or.inr (dk_wr (lo := 77) (hi := 87) y2_ (by decide))))))))))))))), hfσ6 k_ j_ (fun w_ => h_ (w_.elim (fun x0_ => Or.inr (Or.inr (Or.inr (Or.inr (Or.inr (Or.inl (x0_))))))) (fun y0_ => y0_.elim (fun x1_ => Or.inr (Or.inr (Or.inr (Or.inr (Or.inr (Or.inr (Or.inl (x1_)))))))) (fun y1_ => y1_.elim (fun x2_ => Or.inr (Or.inr (Or.inr (Or.inr (Or.inr (Or.inr (Or.inr (Or.inr (Or.inr (dk_wrr (lo := 77) (hi := 87) x2_ (by decide) (by decide))))))))))) (fun y2_ => Or.inr (Or.inr (Or.inr (Or.inr (Or.inl (dk_wrr (lo := 46) (hi := 74) y2_ (by decide) (by decide))))))))))), hfσ2 k_ j_ (fun w_ => h_ (w_.elim (fun x0_ => Or.inl (x0_)) (fun y0_ => y0_.elim (fun x1_ => Or.inr (Or.inl (x1_))) (fun y1_ => y1_.elim (fun x2_ => Or.inr (Or.inr (Or.inl (x2_)))) (fun y2_ => y2_.elim (fun x3_ => Or.inr (Or.inr (Or.inr (Or.inl (x3_))))) (fun y3_ => Or.inr (Or.inr (Or.inr (Or.inr (Or.inl (y3_)))))))))))]), by omega⟩
set_option maxHeartbeats 4000000 in
set_option maxRecDepth 20000 in
theorem ct_X10_findFall (l : Launch) (G : dkG) (hGd : dk_Gd G) (w b d k s : Int) : dk_Ct l G dk_Ty yX10_findFall cX10_findFall 5 (some .boolean) 7 190 190 (fun av σ => av = [(4, 0), (0, w), (0, b), (0, d), (0, k)] ∧ (GI σ) ∧ (dk_sc s) ∧ (s = σ 0 9) ∧ (0 ≤ w ∧ w < 4) ∧ (0 ≤ d ∧ d ≤ 999) ∧ (0 ≤ b ∧ b < 10)) (fun _ σ r_ σ' => ∃ z : Int, r_ = some (0, z) ∧ (∀ k_ j_ : Int, ¬ ((k_ = 45 ∧ j_ = 9) ∨ (k_ = 45 ∧ j_ = 10) ∨ (k_ = 45 ∧ j_ = 11) ∨ (k_ = 45 ∧ j_ = 12) ∨ (46 ≤ k_ ∧ k_ ≤ 74) ∨ (k_ = 75 ∧ j_ = 4) ∨ (k_ = 75 ∧ j_ = 5) ∨ (k_ = 75 ∧ j_ = 6) ∨ (k_ = 75 ∧ j_ = 7) ∨ (77 ≤ k_ ∧ k_ ≤ 87)) → σ' k_ j_ = σ k_ j_) ∧ (0 ≤ z ∧ z ≤ 1)) := by
  refine dk_enter hGd (by decide) (fun av σ hpre hok => ?_)
  obtain ⟨rfl, hG, hs, h09, hw, hd, hb⟩ := hpre
  refine ⟨Nat.le_of_ble_eq_true rfl, fun E hE hR _ => ?_⟩
  have hi_w : dk_i32 w := dk_oki (hok _ (by simp))
  have hi_b : dk_i32 b := dk_oki (hok _ (by simp))
  have hi_d : dk_i32 d := dk_oki (hok _ (by simp))
  have hi_k : dk_i32 k := dk_oki (hok _ (by simp))
  show dk_PJ E 0 [(4, 0), (0, w), (0, b), (0, d), (0, k)] [] 190 σ
  refine dk_aload_n (pc' := 1) hE dX10_findFall_0 rfl rfl rfl ?_
  refine dk_iload_n (pc' := 2) hE dX10_findFall_1 rfl rfl rfl ?_
  refine dk_iload_n (pc' := 3) hE dX10_findFall_2 rfl rfl rfl ?_
  refine dk_iload (pc' := 5) hE dX10_findFall_3 rfl rfl ?_
  have hz1 : σ 0 9 = s := by rw [h09]
  refine dk_cV (pc' := 8) (as := [(0, w), (0, d), (0, k)]) hE lk_X10_245 (ct_X10_findCast l G hGd w d k s) dX10_findFall_5 rfl is_0 rfl (by decide) (Nat.le_of_ble_eq_true rfl) ⟨rfl, hG, (by omega), (by omega), (by omega), (by omega)⟩ rfl (fun r3 σ2 hr3 hor3 => ?_)
  obtain ⟨v4, rfl, hfσ2, hpr3⟩ := hr3
  refine dk_if_eq (tgt := 26) (pc' := 11) hE dX10_findFall_8 (by decide) rfl (fun hc5 => ?_) (fun hc5 => ?_)
  · skip
    refine dk_iconst (pc' := 27) hE dX10_findFall_26 (by decide) rfl ?_
    exact dk_zret (st := []) hE hR dX10_findFall_27 (by omega) ⟨_, rfl, (fun k_ j_ h_ => by rw [hfσ2 k_ j_ (fun w_ => h_ (w_.elim (fun x0_ => Or.inl (x0_)) (fun y0_ => y0_.elim (fun x1_ => Or.inr (Or.inl (x1_))) (fun y1_ => y1_.elim (fun x2_ => Or.inr (Or.inr (Or.inl (x2_)))) (fun y2_ => y2_.elim (fun x3_ => Or.inr (Or.inr (Or.inr (Or.inl (x3_))))) (fun y3_ => y3_.elim (fun x4_ => Or.inr (Or.inr (Or.inr (Or.inr (Or.inl (x4_)))))) (fun y4_ => y4_.elim (fun x5_ => Or.inr (Or.inr (Or.inr (Or.inr (Or.inr (Or.inl (x5_))))))) (fun y5_ => y5_.elim (fun x6_ => Or.inr (Or.inr (Or.inr (Or.inr (Or.inr (Or.inr (Or.inl (x6_)))))))) (fun y6_ => y6_.elim (fun x7_ => Or.inr (Or.inr (Or.inr (Or.inr (Or.inr (Or.inr (Or.inr (Or.inl (x7_))))))))) (fun y7_ => y7_.elim (fun x8_ => Or.inr (Or.inr (Or.inr (Or.inr (Or.inr (Or.inr (Or.inr (Or.inr (Or.inl (x8_)))))))))) (fun y8_ => Or.inr (Or.inr (Or.inr (Or.inr (Or.inr (Or.inr (Or.inr (Or.inr (Or.inr (y8_))))))))))))))))))))]), by omega⟩
  · skip
    refine dk_aload_n (pc' := 12) hE dX10_findFall_11 rfl rfl rfl ?_
    refine gf_10_7 (pc' := 15) (w := 75) hE fl_X10_68 dX10_findFall_12 is_0 rfl rfl ?_
    refine dk_iload_n (pc' := 16) hE dX10_findFall_15 rfl rfl rfl ?_
    refine dk_cV (pc' := 19) (as := [(0, b)]) hE lk_X10_349 (ct_X0_chooseWithout l G hGd b) dX10_findFall_16 rfl is_75 rfl (by decide) (Nat.le_of_ble_eq_true rfl) ⟨rfl, (by omega)⟩ rfl (fun r7 σ6 hr7 hor7 => ?_)
    obtain ⟨v8, rfl, hfσ6, hpr7⟩ := hr7
    refine dk_if_eq (tgt := 26) (pc' := 22) hE dX10_findFall_19 (by decide) rfl (fun hc9 => ?_) (fun hc9 => ?_)
    · skip
      refine dk_iconst (pc' := 27) hE dX10_findFall_26 (by decide) rfl ?_
      exact dk_zret (st := []) hE hR dX10_findFall_27 (by omega) ⟨_, rfl, (fun k_ j_ h_ => by rw [hfσ6 k_ j_ (fun w_ => h_ (w_.elim (fun x0_ => Or.inr (Or.inr (Or.inr (Or.inr (Or.inr (Or.inr (Or.inr (Or.inl (x0_))))))))) (fun y0_ => y0_.elim (fun x1_ => Or.inr (Or.inr (Or.inr (Or.inr (Or.inr (Or.inr (Or.inr (Or.inr (Or.inl (x1_)))))))))) (fun y1_ => y1_.elim (fun x2_ => Or.inr (Or.inr (Or.inr (Or.inr (Or.inr (Or.inr (Or.inr (Or.inr (Or.inr (dk_wr (lo := 77) (hi := 87) x2_ (by decide))))))))))) (fun y2_ => y2_.elim (fun x3_ => Or.inr (Or.inr (Or.inr (Or.inr (Or.inr (Or.inr (Or.inr (Or.inr (Or.inr (dk_wr (lo := 77) (hi := 87) x3_ (by decide))))))))))) (fun y3_ => y3_.elim (fun x4_ => Or.inr (Or.inr (Or.inr (Or.inr (Or.inr (Or.inr (Or.inr (Or.inr (Or.inr (dk_wrr (lo := 77) (hi := 87) x4_ (by decide) (by decide))))))))))) (fun y4_ => Or.inr (Or.inr (Or.inr (Or.inr (Or.inr (Or.inr (Or.inr (Or.inr (Or.inr (dk_wr (lo := 77) (hi := 87) y4_ (by decide))))))))))))))))), hfσ2 k_ j_ (fun w_ => h_ (w_.elim (fun x0_ => Or.inl (x0_)) (fun y0_ => y0_.elim (fun x1_ => Or.inr (Or.inl (x1_))) (fun y1_ => y1_.elim (fun x2_ => Or.inr (Or.inr (Or.inl (x2_)))) (fun y2_ => y2_.elim (fun x3_ => Or.inr (Or.inr (Or.inr (Or.inl (x3_))))) (fun y3_ => y3_.elim (fun x4_ => Or.inr (Or.inr (Or.inr (Or.inr (Or.inl (x4_)))))) (fun y4_ => y4_.elim (fun x5_ => Or.inr (Or.inr (Or.inr (Or.inr (Or.inr (Or.inl (x5_))))))) (fun y5_ => y5_.elim (fun x6_ => Or.inr (Or.inr (Or.inr (Or.inr (Or.inr (Or.inr (Or.inl (x6_)))))))) (fun y6_ => y6_.elim (fun x7_ => Or.inr (Or.inr (Or.inr (Or.inr (Or.inr (Or.inr (Or.inr (Or.inl (x7_))))))))) (fun y7_ => y7_.elim (fun x8_ => Or.inr (Or.inr (Or.inr (Or.inr (Or.inr (Or.inr (Or.inr (Or.inr (Or.inl (x8_)))))))))) (fun y8_ => Or.inr (Or.inr (Or.inr (Or.inr (Or.inr (Or.inr (Or.inr (Or.inr (Or.inr (y8_))))))))))))))))))))]), by omega⟩
    · skip
      refine dk_iconst (pc' := 23) hE dX10_findFall_22 (by decide) rfl ?_
      refine dk_goto (tgt := 27) hE dX10_findFall_23 (by decide) ?_
      exact dk_zret (st := []) hE hR dX10_findFall_27 (by omega) ⟨_, rfl, (fun k_ j_ h_ => by rw [hfσ6 k_ j_ (fun w_ => h_ (w_.elim (fun x0_ => Or.inr (Or.inr (Or.inr (Or.inr (Or.inr (Or.inr (Or.inr (Or.inl (x0_))))))))) (fun y0_ => y0_.elim (fun x1_ => Or.inr (Or.inr (Or.inr (Or.inr (Or.inr (Or.inr (Or.inr (Or.inr (Or.inl (x1_)))))))))) (fun y1_ => y1_.elim (fun x2_ => Or.inr (Or.inr (Or.inr (Or.inr (Or.inr (Or.inr (Or.inr (Or.inr (Or.inr (dk_wr (lo := 77) (hi := 87) x2_ (by decide))))))))))) (fun y2_ => y2_.elim (fun x3_ => Or.inr (Or.inr (Or.inr (Or.inr (Or.inr (Or.inr (Or.inr (Or.inr (Or.inr (dk_wr (lo := 77) (hi := 87) x3_ (by decide))))))))))) (fun y3_ => y3_.elim (fun x4_ => Or.inr (Or.inr (Or.inr (Or.inr (Or.inr (Or.inr (Or.inr (Or.inr (Or.inr (dk_wrr (lo := 77) (hi := 87) x4_ (by decide) (by decide))))))))))) (fun y4_ => Or.inr (Or.inr (Or.inr (Or.inr (Or.inr (Or.inr (Or.inr (Or.inr (Or.inr (dk_wr (lo := 77) (hi := 87) y4_ (by decide))))))))))))))))), hfσ2 k_ j_ (fun w_ => h_ (w_.elim (fun x0_ => Or.inl (x0_)) (fun y0_ => y0_.elim (fun x1_ => Or.inr (Or.inl (x1_))) (fun y1_ => y1_.elim (fun x2_ => Or.inr (Or.inr (Or.inl (x2_)))) (fun y2_ => y2_.elim (fun x3_ => Or.inr (Or.inr (Or.inr (Or.inl (x3_))))) (fun y3_ => y3_.elim (fun x4_ => Or.inr (Or.inr (Or.inr (Or.inr (Or.inl (x4_)))))) (fun y4_ => y4_.elim (fun x5_ => Or.inr (Or.inr (Or.inr (Or.inr (Or.inr (Or.inl (x5_))))))) (fun y5_ => y5_.elim (fun x6_ => Or.inr (Or.inr (Or.inr (Or.inr (Or.inr (Or.inr (Or.inl (x6_)))))))) (fun y6_ => y6_.elim (fun x7_ => Or.inr (Or.inr (Or.inr (Or.inr (Or.inr (Or.inr (Or.inr (Or.inl (x7_))))))))) (fun y7_ => y7_.elim (fun x8_ => Or.inr (Or.inr (Or.inr (Or.inr (Or.inr (Or.inr (Or.inr (Or.inr (Or.inl (x8_)))))))))) (fun y8_ => Or.inr (Or.inr (Or.inr (Or.inr (Or.inr (Or.inr (Or.inr (Or.inr (Or.inr (y8_))))))))))))))))))))]), by omega⟩
set_option maxHeartbeats 4000000 in
set_option maxRecDepth 20000 in
theorem ct_X10_works (l : Launch) (G : dkG) (hGd : dk_Gd G) (s : Int) : dk_Ct l G dk_Ty yX10_works cX10_works 3 (some .int) 10 190 190 (fun av σ => av = [(4, 0)] ∧ (GI σ) ∧ (dk_sc s) ∧ (s = σ 0 9)) (fun _ σ r_ σ' => ∃ z : Int, r_ = some (0, z) ∧ (∀ k_ j_ : Int, ¬ (k_ = 6 ∨ (k_ = 8 ∧ j_ = 2) ∨ (k_ = 8 ∧ j_ = 3) ∨ (k_ = 8 ∧ j_ = 4) ∨ (k_ = 8 ∧ j_ = 5) ∨ (k_ = 8 ∧ j_ = 6) ∨ k_ = 9 ∨ (95 ≤ k_ ∧ k_ ≤ 140) ∨ (k_ = 0 ∧ j_ = 9) ∨ (k_ = 0 ∧ j_ = 10) ∨ (k_ = 0 ∧ j_ = 13) ∨ (k_ = 0 ∧ j_ = 14) ∨ (k_ = 1 ∧ j_ = 1) ∨ (k_ = 37 ∧ j_ = 7) ∨ (k_ = 88 ∧ j_ = 6)) → σ' k_ j_ = σ k_ j_) ∧ (GI σ' ∧ (σ' 0 9 = 95 ∨ σ' 0 9 = 118))) := by
  refine dk_enter hGd (by decide) (fun av σ hpre hok => ?_)
  obtain ⟨rfl, hG, hs, h09⟩ := hpre
  refine ⟨Nat.le_of_ble_eq_true rfl, fun E hE hR _ => ?_⟩
  show dk_PJ E 0 [(4, 0), (9, 0), (9, 0)] [] 190 σ
  refine dk_aload_n (pc' := 1) hE dX10_works_0 rfl rfl rfl ?_
  refine gf_10_2 (pc' := 4) (w := 8) hE fl_X10_33 dX10_works_1 is_0 rfl rfl ?_
  refine dk_aload_n (pc' := 5) hE dX10_works_4 rfl rfl rfl ?_
  refine gf_10_10 (pc' := 8) hE fl_X10_86 dX10_works_5 is_0 rfl (fun v1 hv1 htv1 hbv1 => ?_)
  refine dk_cV (pc' := 11) (as := [(4, v1)]) hE lk_X10_109 (ct_X5_readInto l G hGd v1) dX10_works_8 rfl is_8 rfl (by decide) (Nat.le_of_ble_eq_true rfl) ⟨rfl, hG, (by omega)⟩ rfl (fun r3 σ2 hr3 hor3 => ?_)
  obtain ⟨v4, rfl, hfσ2, hpr3⟩ := hr3
  obtain ⟨hpr3, hgr3⟩ := hpr3
  refine dk_istore_n (pc' := 12) (ls' := [(4, 0), (0, v4), (9, 0)]) hE dX10_works_11 rfl rfl (by decide) rfl ?_
  refine dk_aload_n (pc' := 13) hE dX10_works_12 rfl rfl rfl ?_
  refine dk_aload_n (pc' := 14) hE dX10_works_13 rfl rfl rfl ?_
  refine gf_10_2 (pc' := 17) (w := 8) hE fl_X10_33 dX10_works_14 is_0 rfl rfl ?_
  refine gf_5_5 (pc' := 20) hE fl_X10_113 dX10_works_17 is_8 rfl (fun v5 hv5 htv5 hbv5 => ?_)
  refine pf_10_13 (pc' := 23) hE fl_X10_96 dX10_works_20 is_0 trivial rfl (fun σ6 eσ6 => ?_)
  refine dk_aload_n (pc' := 24) hE dX10_works_23 rfl rfl rfl ?_
  refine dk_aload_n (pc' := 25) hE dX10_works_24 rfl rfl rfl ?_
  refine gf_10_2 (pc' := 28) (w := 8) hE fl_X10_33 dX10_works_25 is_0 rfl rfl ?_
  refine gf_5_6 (pc' := 31) hE fl_X10_116 dX10_works_28 is_8 rfl (fun v7 hv7 htv7 hbv7 => ?_)
  refine pf_10_14 (pc' := 34) hE fl_X10_99 dX10_works_31 is_0 trivial rfl (fun σ8 eσ8 => ?_)
  refine dk_iload_n (pc' := 35) hE dX10_works_34 rfl rfl rfl ?_
  refine dk_if_ne (tgt := 40) (pc' := 38) hE dX10_works_35 (by decide) rfl (fun hc9 => ?_) (fun hc9 => ?_)
  · skip
    refine dk_aload_n (pc' := 41) hE dX10_works_40 rfl rfl rfl ?_
    refine gf_10_9 (pc' := 44) hE fl_X10_82 dX10_works_41 is_0 rfl (fun v10 hv10 htv10 hbv10 => ?_)
    have hq10 : s = v10 := (show v10 = s by rw [hv10, eσ8, dk_up_n (show ¬ (0 = 0 ∧ 9 = 14) by omega), eσ6, dk_up_n (show ¬ (0 = 0 ∧ 9 = 13) by omega), hfσ2 0 9 (by omega), h09]).symm
    subst hq10
    clear htv10 hbv10
    refine dk_astore_n (pc' := 45) (ls' := [(4, 0), (0, v4), (4, s)]) hE dX10_works_44 rfl rfl (by decide) rfl ?_
    refine dk_aload_n (pc' := 46) hE dX10_works_45 rfl rfl rfl ?_
    refine dk_aload_n (pc' := 47) hE dX10_works_46 rfl rfl rfl ?_
    refine gf_10_10 (pc' := 50) hE fl_X10_86 dX10_works_47 is_0 rfl (fun v11 hv11 htv11 hbv11 => ?_)
    have hq11 : v1 = v11 := (show v11 = v1 by rw [hv11, eσ8, dk_up_n (show ¬ (0 = 0 ∧ 10 = 14) by omega), eσ6, dk_up_n (show ¬ (0 = 0 ∧ 10 = 13) by omega), hfσ2 0 10 (by omega), hv1]).symm
    subst hq11
    clear htv11 hbv11
    refine pf_10_9 (pc' := 53) hE fl_X10_82 dX10_works_50 is_0 (by omega) rfl (fun σ12 eσ12 => ?_)
    refine dk_aload_n (pc' := 54) hE dX10_works_53 rfl rfl rfl ?_
    refine dk_aload_n (pc' := 55) hE dX10_works_54 rfl rfl rfl ?_
    refine pf_10_10 (pc' := 58) hE fl_X10_86 dX10_works_55 is_0 (by omega) rfl (fun σ13 eσ13 => ?_)
    refine dk_aload_n (pc' := 59) hE dX10_works_58 rfl rfl rfl ?_
    refine gf_10_0 (pc' := 62) (w := 1) hE fl_X10_10 dX10_works_59 is_0 rfl rfl ?_
    refine dk_iconst (pc' := 63) hE dX10_works_62 (by decide) rfl ?_
    refine pf_7_1 (pc' := 66) hE fl_X10_102 dX10_works_63 is_1 (by omega) rfl (fun σ14 eσ14 => ?_)
    refine dk_aload_n (pc' := 67) hE dX10_works_66 rfl rfl rfl ?_
    refine gf_10_5 (pc' := 70) (w := 37) hE fl_X10_54 dX10_works_67 is_0 rfl rfl ?_
    refine dk_iconst (pc' := 71) hE dX10_works_70 (by decide) rfl ?_
    refine pf_1_7 (pc' := 74) hE fl_X10_119 dX10_works_71 is_37 (by omega) rfl (fun σ15 eσ15 => ?_)
    refine dk_aload_n (pc' := 75) hE dX10_works_74 rfl rfl rfl ?_
    refine gf_10_8 (pc' := 78) (w := 88) hE fl_X10_75 dX10_works_75 is_0 rfl rfl ?_
    refine dk_iconst (pc' := 79) hE dX10_works_78 (by decide) rfl ?_
    refine pf_8_6 (pc' := 82) hE fl_X10_122 dX10_works_79 is_88 (by omega) rfl (fun σ16 eσ16 => ?_)
    refine dk_aload_n (pc' := 83) hE dX10_works_82 rfl rfl rfl ?_
    refine gf_10_9 (pc' := 86) hE fl_X10_82 dX10_works_83 is_0 rfl (fun v17 hv17 htv17 hbv17 => ?_)
    have hq17 : v1 = v17 := (show v17 = v1 by rw [hv17, eσ16, dk_up_n (show ¬ (0 = 88 ∧ 9 = 6) by omega), eσ15, dk_up_n (show ¬ (0 = 37 ∧ 9 = 7) by omega), eσ14, dk_up_n (show ¬ (0 = 1 ∧ 9 = 1) by omega), eσ13, dk_up_n (show ¬ (0 = 0 ∧ 9 = 10) by omega), eσ12, dk_up_s]).symm
    subst hq17
    clear htv17 hbv17
    refine gf_4_13 (pc' := 89) hE fl_X10_125 dX10_works_86 (sc_is (by omega)) rfl (fun v18 hv18 htv18 hbv18 => ?_)
    have hz19 : σ16 0 9 = v1 := by rw [hv17]
    have hz20 : σ16 0 9 = v1 := by rw [hv17]
    have gi21 : GI σ16 := GI_fr hgr3 (fun k_ j_ h_ => by rw [eσ16, dk_up_n (show ¬ (k_ = 88 ∧ j_ = 6) from fun q_ => fpn19_88 q_.1 h_), eσ15, dk_up_n (show ¬ (k_ = 37 ∧ j_ = 7) from fun q_ => fpn19_37 q_.1 h_), eσ14, dk_up_n (show ¬ (k_ = 1 ∧ j_ = 1) from fun q_ => fpn19_1 q_.1 h_), eσ13, dk_up_n (show ¬ (k_ = 0 ∧ j_ = 10) from fun q_ => fpn19_0 q_.1 h_), eσ12, dk_up_n (show ¬ (k_ = 0 ∧ j_ = 9) from fun q_ => fpn19_0 q_.1 h_), eσ8, dk_up_n (show ¬ (k_ = 0 ∧ j_ = 14) from fun q_ => fpn19_0 q_.1 h_), eσ6, dk_up_n (show ¬ (k_ = 0 ∧ j_ = 13) from fun q_ => fpn19_0 q_.1 h_)])
    exact dk_iret (st := []) hE hR dX10_works_89 ⟨_, rfl, (fun k_ j_ h_ => by rw [eσ16, dk_up_n (show ¬ (k_ = 88 ∧ j_ = 6) from fun q_ => h_ (Or.inr (Or.inr (Or.inr (Or.inr (Or.inr (Or.inr (Or.inr (Or.inr (Or.inr (Or.inr (Or.inr (Or.inr (Or.inr (Or.inr (q_)))))))))))))))), eσ15, dk_up_n (show ¬ (k_ = 37 ∧ j_ = 7) from fun q_ => h_ (Or.inr (Or.inr (Or.inr (Or.inr (Or.inr (Or.inr (Or.inr (Or.inr (Or.inr (Or.inr (Or.inr (Or.inr (Or.inr (Or.inl (q_)))))))))))))))), eσ14, dk_up_n (show ¬ (k_ = 1 ∧ j_ = 1) from fun q_ => h_ (Or.inr (Or.inr (Or.inr (Or.inr (Or.inr (Or.inr (Or.inr (Or.inr (Or.inr (Or.inr (Or.inr (Or.inr (Or.inl (q_))))))))))))))), eσ13, dk_up_n (show ¬ (k_ = 0 ∧ j_ = 10) from fun q_ => h_ (Or.inr (Or.inr (Or.inr (Or.inr (Or.inr (Or.inr (Or.inr (Or.inr (Or.inr (Or.inl (q_)))))))))))), eσ12, dk_up_n (show ¬ (k_ = 0 ∧ j_ = 9) from fun q_ => h_ (Or.inr (Or.inr (Or.inr (Or.inr (Or.inr (Or.inr (Or.inr (Or.inr (Or.inl (q_))))))))))), eσ8, dk_up_n (show ¬ (k_ = 0 ∧ j_ = 14) from fun q_ => h_ (Or.inr (Or.inr (Or.inr (Or.inr (Or.inr (Or.inr (Or.inr (Or.inr (Or.inr (Or.inr (Or.inr (Or.inl (q_)))))))))))))), eσ6, dk_up_n (show ¬ (k_ = 0 ∧ j_ = 13) from fun q_ => h_ (Or.inr (Or.inr (Or.inr (Or.inr (Or.inr (Or.inr (Or.inr (Or.inr (Or.inr (Or.inr (Or.inl (q_))))))))))))), hfσ2 k_ j_ (fun w_ => h_ (w_.elim (fun x0_ => Or.inl (x0_)) (fun y0_ => y0_.elim (fun x1_ => Or.inr (Or.inl (x1_))) (fun y1_ => y1_.elim (fun x2_ => Or.inr (Or.inr (Or.inr (Or.inr (Or.inl (x2_)))))) (fun y2_ => y2_.elim (fun x3_ => Or.inr (Or.inr (Or.inr (Or.inr (Or.inr (Or.inl (x3_))))))) (fun y3_ => y3_.elim (fun x4_ => Or.inr (Or.inr (Or.inr (Or.inr (Or.inr (Or.inr (Or.inl (x4_)))))))) (fun y4_ => y4_.elim (fun x5_ => Or.inr (Or.inr (Or.inl (x5_)))) (fun y5_ => y5_.elim (fun x6_ => Or.inr (Or.inr (Or.inr (Or.inr (Or.inr (Or.inr (Or.inr (Or.inl (x6_))))))))) (fun y6_ => Or.inr (Or.inr (Or.inr (Or.inl (y6_)))))))))))))]), ⟨gi21, by omega⟩⟩
  · skip
    refine dk_iconst (pc' := 39) hE dX10_works_38 (by decide) rfl ?_
    have hz22 : σ8 0 9 = s := by rw [eσ8, dk_up_n (show ¬ (0 = 0 ∧ 9 = 14) by omega), eσ6, dk_up_n (show ¬ (0 = 0 ∧ 9 = 13) by omega), hfσ2 0 9 (by omega), h09]
    have hz23 : σ8 0 9 = s := by rw [eσ8, dk_up_n (show ¬ (0 = 0 ∧ 9 = 14) by omega), eσ6, dk_up_n (show ¬ (0 = 0 ∧ 9 = 13) by omega), hfσ2 0 9 (by omega), h09]
    have gi24 : GI σ8 := GI_fr hgr3 (fun k_ j_ h_ => by rw [eσ8, dk_up_n (show ¬ (k_ = 0 ∧ j_ = 14) from fun q_ => fpn19_0 q_.1 h_), eσ6, dk_up_n (show ¬ (k_ = 0 ∧ j_ = 13) from fun q_ => fpn19_0 q_.1 h_)])
    exact dk_iret (st := []) hE hR dX10_works_39 ⟨_, rfl, (fun k_ j_ h_ => by rw [eσ8, dk_up_n (show ¬ (k_ = 0 ∧ j_ = 14) from fun q_ => h_ (Or.inr (Or.inr (Or.inr (Or.inr (Or.inr (Or.inr (Or.inr (Or.inr (Or.inr (Or.inr (Or.inr (Or.inl (q_)))))))))))))), eσ6, dk_up_n (show ¬ (k_ = 0 ∧ j_ = 13) from fun q_ => h_ (Or.inr (Or.inr (Or.inr (Or.inr (Or.inr (Or.inr (Or.inr (Or.inr (Or.inr (Or.inr (Or.inl (q_))))))))))))), hfσ2 k_ j_ (fun w_ => h_ (w_.elim (fun x0_ => Or.inl (x0_)) (fun y0_ => y0_.elim (fun x1_ => Or.inr (Or.inl (x1_))) (fun y1_ => y1_.elim (fun x2_ => Or.inr (Or.inr (Or.inr (Or.inr (Or.inl (x2_)))))) (fun y2_ => y2_.elim (fun x3_ => Or.inr (Or.inr (Or.inr (Or.inr (Or.inr (Or.inl (x3_))))))) (fun y3_ => y3_.elim (fun x4_ => Or.inr (Or.inr (Or.inr (Or.inr (Or.inr (Or.inr (Or.inl (x4_)))))))) (fun y4_ => y4_.elim (fun x5_ => Or.inr (Or.inr (Or.inl (x5_)))) (fun y5_ => y5_.elim (fun x6_ => Or.inr (Or.inr (Or.inr (Or.inr (Or.inr (Or.inr (Or.inr (Or.inl (x6_))))))))) (fun y6_ => Or.inr (Or.inr (Or.inr (Or.inl (y6_)))))))))))))]), ⟨gi24, by omega⟩⟩
set_option maxHeartbeats 4000000 in
set_option maxRecDepth 20000 in
theorem ct_X10_rules (l : Launch) (G : dkG) (hGd : dk_Gd G) (d s : Int) : dk_Ct l G dk_Ty yX10_rules cX10_rules 3 (some .int) 9 190 190 (fun av σ => av = [(4, 0), (0, d)] ∧ (GI σ) ∧ (dk_sc s) ∧ (s = σ 0 9)) (fun _ σ r_ σ' => ∃ z : Int, r_ = some (0, z) ∧ (∀ k_ j_ : Int, ¬ (k_ = 6 ∨ (10 ≤ k_ ∧ k_ ≤ 11) ∨ (13 ≤ k_ ∧ k_ ≤ 36) ∨ (k_ = 0 ∧ j_ = 11) ∨ (k_ = 0 ∧ j_ = 13) ∨ (k_ = 0 ∧ j_ = 14) ∨ (k_ = 1 ∧ j_ = 1)) → σ' k_ j_ = σ k_ j_) ∧ (True)) := by
  refine dk_enter hGd (by decide) (fun av σ hpre hok => ?_)
  obtain ⟨rfl, hG, hs, h09⟩ := hpre
  refine ⟨Nat.le_of_ble_eq_true rfl, fun E hE hR _ => ?_⟩
  have hi_d : dk_i32 d := dk_oki (hok _ (by simp))
  show dk_PJ E 0 [(4, 0), (0, d), (9, 0)] [] 190 σ
  refine dk_aload_n (pc' := 1) hE dX10_rules_0 rfl rfl rfl ?_
  refine gf_10_0 (pc' := 4) (w := 1) hE fl_X10_10 dX10_rules_1 is_0 rfl rfl ?_
  refine gf_7_1 (pc' := 7) hE fl_X10_102 dX10_rules_4 is_1 rfl (fun v1 hv1 htv1 hbv1 => ?_)
  refine dk_sipush (pc' := 10) hE dX10_rules_7 (by decide) rfl ?_
  refine dk_icmp_gt (tgt := 29) (pc' := 13) hE dX10_rules_10 (by decide) rfl (fun hc2 => ?_) (fun hc2 => ?_)
  · skip
    refine dk_bipush (pc' := 31) hE dX10_rules_29 (by decide) rfl ?_
    exact dk_iret (st := []) hE hR dX10_rules_31 ⟨_, rfl, (fun k_ j_ h_ => rfl), trivial⟩
  · skip
    refine dk_iload_n (pc' := 14) hE dX10_rules_13 rfl rfl rfl ?_
    refine dk_cS (pc' := 17) (as := [(0, d)]) hE lk_X10_128 (ct_X10_isDay l G hGd d) dX10_rules_14 rfl rfl (by decide) (Nat.le_of_ble_eq_true rfl) rfl rfl (fun r4 σ3 hr4 hor4 => ?_)
    obtain ⟨v5, rfl, hfσ3, hpr4⟩ := hr4
    have hsσ3 : σ = σ3 := (funext (fun k => funext (fun j => hfσ3 k j not_false))).symm
    subst hsσ3
    rcases hpr4 with ⟨rfl, hpr4⟩ | ⟨rfl, hpr4⟩
    · skip
      refine dk_if_eq (tgt := 29) (pc' := 20) hE dX10_rules_17 (by decide) rfl (fun hc6 => absurd hc6 (by decide)) (fun hc6 => ?_)
      refine dk_aload_n (pc' := 21) hE dX10_rules_20 rfl rfl rfl ?_
      refine gf_10_11 (pc' := 24) hE fl_X10_89 dX10_rules_21 is_0 rfl (fun v7 hv7 htv7 hbv7 => ?_)
      refine dk_bipush (pc' := 26) hE dX10_rules_24 (by decide) rfl ?_
      refine dk_icmp_lt (tgt := 32) (pc' := 29) hE dX10_rules_26 (by decide) rfl (fun hc8 => ?_) (fun hc8 => ?_)
      · skip
        refine dk_aload_n (pc' := 33) hE dX10_rules_32 rfl rfl rfl ?_
        refine gf_10_3 (pc' := 36) (w := 10) hE fl_X10_40 dX10_rules_33 is_0 rfl rfl ?_
        refine dk_aload_n (pc' := 37) hE dX10_rules_36 rfl rfl rfl ?_
        refine gf_10_4 (pc' := 40) (w := 12) hE fl_X10_46 dX10_rules_37 is_0 rfl rfl ?_
        refine dk_aload_n (pc' := 41) hE dX10_rules_40 rfl rfl rfl ?_
        refine gf_10_11 (pc' := 44) hE fl_X10_89 dX10_rules_41 is_0 rfl (fun v9 hv9 htv9 hbv9 => ?_)
        have hq9 : v7 = v9 := (show v9 = v7 by rw [hv9, hv7]).symm
        subst hq9
        clear htv9 hbv9
        refine ga_26 (pc' := 45) (w := (13 + 4 * v7)) hE dX10_rules_44 is_12 (by omega) (by omega) rfl ?_
        refine dk_cV (pc' := 48) (as := [(4, (13 + 4 * v7))]) hE lk_X10_132 (ct_X2_readInto l G hGd (13 + 4 * v7)) dX10_rules_45 rfl is_10 rfl (by decide) (Nat.le_of_ble_eq_true rfl) ⟨rfl, (by omega)⟩ rfl (fun r11 σ10 hr11 hor11 => ?_)
        obtain ⟨v12, rfl, hfσ10, hpr11⟩ := hr11
        refine dk_istore_n (pc' := 49) (ls' := [(4, 0), (0, d), (0, v12)]) hE dX10_rules_48 rfl rfl (by decide) rfl ?_
        refine dk_aload_n (pc' := 50) hE dX10_rules_49 rfl rfl rfl ?_
        refine dk_aload_n (pc' := 51) hE dX10_rules_50 rfl rfl rfl ?_
        refine gf_10_3 (pc' := 54) (w := 10) hE fl_X10_40 dX10_rules_51 is_0 rfl rfl ?_
        refine gf_2_6 (pc' := 57) hE fl_X10_135 dX10_rules_54 is_10 rfl (fun v13 hv13 htv13 hbv13 => ?_)
        refine pf_10_13 (pc' := 60) hE fl_X10_96 dX10_rules_57 is_0 trivial rfl (fun σ14 eσ14 => ?_)
        refine dk_aload_n (pc' := 61) hE dX10_rules_60 rfl rfl rfl ?_
        refine dk_aload_n (pc' := 62) hE dX10_rules_61 rfl rfl rfl ?_
        refine gf_10_3 (pc' := 65) (w := 10) hE fl_X10_40 dX10_rules_62 is_0 rfl rfl ?_
        refine gf_2_7 (pc' := 68) hE fl_X10_136 dX10_rules_65 is_10 rfl (fun v15 hv15 htv15 hbv15 => ?_)
        refine pf_10_14 (pc' := 71) hE fl_X10_99 dX10_rules_68 is_0 trivial rfl (fun σ16 eσ16 => ?_)
        refine dk_aload_n (pc' := 72) hE dX10_rules_71 rfl rfl rfl ?_
        refine gf_10_0 (pc' := 75) (w := 1) hE fl_X10_10 dX10_rules_72 is_0 rfl rfl ?_
        refine dk_iconst (pc' := 76) hE dX10_rules_75 (by decide) rfl ?_
        refine pf_7_1 (pc' := 79) hE fl_X10_102 dX10_rules_76 is_1 (by omega) rfl (fun σ17 eσ17 => ?_)
        refine dk_iload_n (pc' := 80) hE dX10_rules_79 rfl rfl rfl ?_
        refine dk_if_ne (tgt := 85) (pc' := 83) hE dX10_rules_80 (by decide) rfl (fun hc18 => ?_) (fun hc18 => ?_)
        · skip
          refine dk_aload_n (pc' := 86) hE dX10_rules_85 rfl rfl rfl ?_
          refine gf_10_4 (pc' := 89) (w := 12) hE fl_X10_46 dX10_rules_86 is_0 rfl rfl ?_
          refine dk_aload_n (pc' := 90) hE dX10_rules_89 rfl rfl rfl ?_
          refine gf_10_11 (pc' := 93) hE fl_X10_89 dX10_rules_90 is_0 rfl (fun v19 hv19 htv19 hbv19 => ?_)
          have hq19 : v7 = v19 := (show v19 = v7 by rw [hv19, eσ17, dk_up_n (show ¬ (0 = 1 ∧ 11 = 1) by omega), eσ16, dk_up_n (show ¬ (0 = 0 ∧ 11 = 14) by omega), eσ14, dk_up_n (show ¬ (0 = 0 ∧ 11 = 13) by omega), hfσ10 0 11 (by omega), hv9]).symm
          subst hq19
          clear htv19 hbv19
          refine ga_26 (pc' := 94) (w := (13 + 4 * v7)) hE dX10_rules_93 is_12 (by omega) (by omega) rfl ?_
          refine dk_iload_n (pc' := 95) hE dX10_rules_94 rfl rfl rfl ?_
          refine pf_3_4 (pc' := 98) hE fl_X10_137 dX10_rules_95 (ru_is (by omega)) trivial rfl (fun σ20 eσ20 => ?_)
          refine dk_aload_n (pc' := 99) hE dX10_rules_98 rfl rfl rfl ?_
          refine dk_dup (pc' := 100) hE dX10_rules_99 (show (4 : Nat) ≠ 3 by decide) rfl ?_
          refine gf_10_11 (pc' := 103) hE fl_X10_89 dX10_rules_100 is_0 rfl (fun v21 hv21 htv21 hbv21 => ?_)
          have hq21 : v7 = v21 := (show v21 = v7 by rw [hv21, eσ20, dk_up_n (show ¬ (0 = (13 + 4 * v7) ∧ 11 = 4) by omega), hv19]).symm
          subst hq21
          clear htv21 hbv21
          refine dk_iconst (pc' := 104) hE dX10_rules_103 (by decide) rfl ?_
          obtain ⟨v22, hv22⟩ : ∃ z : Int, z = v7 + 1 := ⟨_, rfl⟩
          refine dk_iadd (pc' := 105) hE dX10_rules_104 hv22.symm (by omega) rfl ?_
          refine pf_10_11 (pc' := 108) hE fl_X10_89 dX10_rules_105 is_0 (by omega) rfl (fun σ23 eσ23 => ?_)
          refine dk_aload_n (pc' := 109) hE dX10_rules_108 rfl rfl rfl ?_
          refine gf_10_11 (pc' := 112) hE fl_X10_89 dX10_rules_109 is_0 rfl (fun v24 hv24 htv24 hbv24 => ?_)
          have hq24 : v22 = v24 := (show v24 = v22 by rw [hv24, eσ23, dk_up_s]).symm
          subst hq24
          clear htv24 hbv24
          refine dk_iconst (pc' := 113) hE dX10_rules_112 (by decide) rfl ?_
          obtain ⟨v25, hv25⟩ : ∃ z : Int, z = v22 - 1 := ⟨_, rfl⟩
          refine dk_isub (pc' := 114) hE dX10_rules_113 hv25.symm (by omega) rfl ?_
          have hw26 : 13 ≤ (13 + 4 * v7) ∧ (13 + 4 * v7) ≤ 36 := by omega
          exact dk_iret (st := []) hE hR dX10_rules_114 ⟨_, rfl, (fun k_ j_ h_ => by rw [eσ23, dk_up_n (show ¬ (k_ = 0 ∧ j_ = 11) from fun q_ => h_ (Or.inr (Or.inr (Or.inr (Or.inl (q_)))))), eσ20, dk_up_n (show ¬ (k_ = (13 + 4 * v7) ∧ j_ = 4) from fun q_ => h_ (Or.inr (Or.inr (Or.inl (dk_wr q_.1 hw26))))), eσ17, dk_up_n (show ¬ (k_ = 1 ∧ j_ = 1) from fun q_ => h_ (Or.inr (Or.inr (Or.inr (Or.inr (Or.inr (Or.inr (q_)))))))), eσ16, dk_up_n (show ¬ (k_ = 0 ∧ j_ = 14) from fun q_ => h_ (Or.inr (Or.inr (Or.inr (Or.inr (Or.inr (Or.inl (q_)))))))), eσ14, dk_up_n (show ¬ (k_ = 0 ∧ j_ = 13) from fun q_ => h_ (Or.inr (Or.inr (Or.inr (Or.inr (Or.inl (q_))))))), hfσ10 k_ j_ (fun w_ => h_ (w_.elim (fun x0_ => Or.inl (x0_)) (fun y0_ => y0_.elim (fun x1_ => Or.inr (Or.inl (dk_wr (lo := 10) (hi := 11) x1_.1 (by decide)))) (fun y1_ => y1_.elim (fun x2_ => Or.inr (Or.inl (dk_wr (lo := 10) (hi := 11) x2_.1 (by decide)))) (fun y2_ => y2_.elim (fun x3_ => Or.inr (Or.inl (dk_wr (lo := 10) (hi := 11) x3_.1 (by decide)))) (fun y3_ => y3_.elim (fun x4_ => Or.inr (Or.inl (dk_wr (lo := 10) (hi := 11) x4_.1 (by decide)))) (fun y4_ => y4_.elim (fun x5_ => Or.inr (Or.inl (dk_wr (lo := 10) (hi := 11) x5_.1 (by decide)))) (fun y5_ => y5_.elim (fun x6_ => Or.inr (Or.inl (dk_wr (lo := 10) (hi := 11) x6_ (by decide)))) (fun y6_ => y6_.elim (fun x7_ => Or.inr (Or.inr (Or.inl (x7_)))) (fun y7_ => Or.inr (Or.inl (dk_wr (lo := 10) (hi := 11) y7_.1 (by decide)))))))))))))]), trivial⟩
        · skip
          refine dk_iconst (pc' := 84) hE dX10_rules_83 (by decide) rfl ?_
          exact dk_iret (st := []) hE hR dX10_rules_84 ⟨_, rfl, (fun k_ j_ h_ => by rw [eσ17, dk_up_n (show ¬ (k_ = 1 ∧ j_ = 1) from fun q_ => h_ (Or.inr (Or.inr (Or.inr (Or.inr (Or.inr (Or.inr (q_)))))))), eσ16, dk_up_n (show ¬ (k_ = 0 ∧ j_ = 14) from fun q_ => h_ (Or.inr (Or.inr (Or.inr (Or.inr (Or.inr (Or.inl (q_)))))))), eσ14, dk_up_n (show ¬ (k_ = 0 ∧ j_ = 13) from fun q_ => h_ (Or.inr (Or.inr (Or.inr (Or.inr (Or.inl (q_))))))), hfσ10 k_ j_ (fun w_ => h_ (w_.elim (fun x0_ => Or.inl (x0_)) (fun y0_ => y0_.elim (fun x1_ => Or.inr (Or.inl (dk_wr (lo := 10) (hi := 11) x1_.1 (by decide)))) (fun y1_ => y1_.elim (fun x2_ => Or.inr (Or.inl (dk_wr (lo := 10) (hi := 11) x2_.1 (by decide)))) (fun y2_ => y2_.elim (fun x3_ => Or.inr (Or.inl (dk_wr (lo := 10) (hi := 11) x3_.1 (by decide)))) (fun y3_ => y3_.elim (fun x4_ => Or.inr (Or.inl (dk_wr (lo := 10) (hi := 11) x4_.1 (by decide)))) (fun y4_ => y4_.elim (fun x5_ => Or.inr (Or.inl (dk_wr (lo := 10) (hi := 11) x5_.1 (by decide)))) (fun y5_ => y5_.elim (fun x6_ => Or.inr (Or.inl (dk_wr (lo := 10) (hi := 11) x6_ (by decide)))) (fun y6_ => y6_.elim (fun x7_ => Or.inr (Or.inr (Or.inl (x7_)))) (fun y7_ => Or.inr (Or.inl (dk_wr (lo := 10) (hi := 11) y7_.1 (by decide)))))))))))))]), trivial⟩
      · skip
        refine dk_bipush (pc' := 31) hE dX10_rules_29 (by decide) rfl ?_
        exact dk_iret (st := []) hE hR dX10_rules_31 ⟨_, rfl, (fun k_ j_ h_ => rfl), trivial⟩
    · skip
      refine dk_if_eq (tgt := 29) (pc' := 20) hE dX10_rules_17 (by decide) rfl (fun hc27 => ?_) (fun hc27 => absurd hc27 (by decide))
      refine dk_bipush (pc' := 31) hE dX10_rules_29 (by decide) rfl ?_
      exact dk_iret (st := []) hE hR dX10_rules_31 ⟨_, rfl, (fun k_ j_ h_ => rfl), trivial⟩
set_option maxHeartbeats 4000000 in
set_option maxRecDepth 20000 in
theorem ct_X10_part (l : Launch) (G : dkG) (hGd : dk_Gd G) (p w s : Int) : dk_Ct l G dk_Ty yX10_part cX10_part 3 (some .int) 2 190 190 (fun av σ => av = [(4, 0), (0, p), (0, w)] ∧ (GI σ) ∧ (dk_sc s) ∧ (s = σ 0 9)) (fun _ σ r_ σ' => ∃ z : Int, r_ = some (0, z) ∧ (∀ k_ j_ : Int, ¬ (False) → σ' k_ j_ = σ k_ j_) ∧ (True)) := by
  refine dk_enter hGd (by decide) (fun av σ hpre hok => ?_)
  obtain ⟨rfl, hG, hs, h09⟩ := hpre
  refine ⟨Nat.le_of_ble_eq_true rfl, fun E hE hR _ => ?_⟩
  have hi_p : dk_i32 p := dk_oki (hok _ (by simp))
  have hi_w : dk_i32 w := dk_oki (hok _ (by simp))
  show dk_PJ E 0 [(4, 0), (0, p), (0, w)] [] 190 σ
  refine dk_aload_n (pc' := 1) hE dX10_part_0 rfl rfl rfl ?_
  refine gf_10_9 (pc' := 4) hE fl_X10_82 dX10_part_1 is_0 rfl (fun v1 hv1 htv1 hbv1 => ?_)
  have hq1 : s = v1 := (show v1 = s by rw [hv1, h09]).symm
  subst hq1
  clear htv1 hbv1
  refine dk_iload_n (pc' := 5) hE dX10_part_4 rfl rfl rfl ?_
  refine dk_cV (pc' := 8) (as := [(0, p)]) hE lk_X10_140 (ct_X4_isPart l G hGd s p) dX10_part_5 rfl (sc_is (by omega)) rfl (by decide) (Nat.le_of_ble_eq_true rfl) ⟨rfl, (by omega)⟩ rfl (fun r3 σ2 hr3 hor3 => ?_)
  obtain ⟨v4, rfl, hfσ2, hpr3⟩ := hr3
  have hsσ2 : σ = σ2 := (funext (fun k => funext (fun j => hfσ2 k j not_false))).symm
  subst hsσ2
  rcases hpr3 with ⟨rfl, hpr3⟩ | rfl
  · skip
    refine dk_if_ne (tgt := 13) (pc' := 11) hE dX10_part_8 (by decide) rfl (fun hc5 => ?_) (fun hc5 => absurd hc5 (by decide))
    refine dk_iload_n (pc' := 14) hE dX10_part_13 rfl rfl rfl ?_
    refine dk_table (tgs := [48, 58, 68, 86, 96]) (td := 106) hE dX10_part_14 (by decide) (by decide) (by decide) (fun hc6 => ?_) (fun i7 t8 q9 hc6 => ?_)
    · skip
      refine dk_iconst (pc' := 107) hE dX10_part_106 (by decide) rfl ?_
      exact dk_iret (st := []) hE hR dX10_part_107 ⟨_, rfl, (fun k_ j_ h_ => rfl), trivial⟩
    · have i7l : i7 < 5 := (List.getElem?_eq_some_iff.mp q9).1
      rcases (show i7 = 0 ∨ i7 = 1 ∨ i7 = 2 ∨ i7 = 3 ∨ i7 = 4 by omega) with rfl | rfl | rfl | rfl | rfl
      · cases q9
        refine dk_aload_n (pc' := 49) hE dX10_part_48 rfl rfl rfl ?_
        refine gf_10_9 (pc' := 52) hE fl_X10_82 dX10_part_49 is_0 rfl (fun v10 hv10 htv10 hbv10 => ?_)
        have hq10 : s = v10 := (show v10 = s by rw [hv10, hv1]).symm
        subst hq10
        clear htv10 hbv10
        refine gf_4_4 (pc' := 55) (w := (s + 16)) hE fl_X10_143 dX10_part_52 (sc_is (by omega)) rfl rfl ?_
        refine dk_iload_n (pc' := 56) hE dX10_part_55 rfl rfl rfl ?_
        refine ga_63 (pc' := 57) hE dX10_part_56 (sc_16 hs) (by omega) rfl (fun v11 hv11 htv11 hbv11 => ?_)
        exact dk_iret (st := []) hE hR dX10_part_57 ⟨_, rfl, (fun k_ j_ h_ => rfl), trivial⟩
      · cases q9
        refine dk_aload_n (pc' := 59) hE dX10_part_58 rfl rfl rfl ?_
        refine gf_10_9 (pc' := 62) hE fl_X10_82 dX10_part_59 is_0 rfl (fun v12 hv12 htv12 hbv12 => ?_)
        have hq12 : s = v12 := (show v12 = s by rw [hv12, hv1]).symm
        subst hq12
        clear htv12 hbv12
        refine gf_4_5 (pc' := 65) (w := (s + 17)) hE fl_X10_147 dX10_part_62 (sc_is (by omega)) rfl rfl ?_
        refine dk_iload_n (pc' := 66) hE dX10_part_65 rfl rfl rfl ?_
        refine ga_64 (pc' := 67) hE dX10_part_66 (sc_17 hs) (by omega) rfl (fun v13 hv13 htv13 hbv13 => ?_)
        exact dk_iret (st := []) hE hR dX10_part_67 ⟨_, rfl, (fun k_ j_ h_ => rfl), trivial⟩
      · cases q9
        refine dk_aload_n (pc' := 69) hE dX10_part_68 rfl rfl rfl ?_
        refine gf_10_9 (pc' := 72) hE fl_X10_82 dX10_part_69 is_0 rfl (fun v14 hv14 htv14 hbv14 => ?_)
        have hq14 : s = v14 := (show v14 = s by rw [hv14, hv1]).symm
        subst hq14
        clear htv14 hbv14
        refine gf_4_8 (pc' := 75) (w := (s + 20)) hE fl_X10_150 dX10_part_72 (sc_is (by omega)) rfl rfl ?_
        refine dk_iload_n (pc' := 76) hE dX10_part_75 rfl rfl rfl ?_
        refine ga_67 (pc' := 77) hE dX10_part_76 (sc_20 hs) (by omega) rfl (fun v15 hv15 htv15 hbv15 => ?_)
        refine dk_if_eq (tgt := 84) (pc' := 80) hE dX10_part_77 (by decide) rfl (fun hc16 => ?_) (fun hc16 => ?_)
        · skip
          refine dk_iconst (pc' := 85) hE dX10_part_84 (by decide) rfl ?_
          exact dk_iret (st := []) hE hR dX10_part_85 ⟨_, rfl, (fun k_ j_ h_ => rfl), trivial⟩
        · skip
          refine dk_iconst (pc' := 81) hE dX10_part_80 (by decide) rfl ?_
          refine dk_goto (tgt := 85) hE dX10_part_81 (by decide) ?_
          exact dk_iret (st := []) hE hR dX10_part_85 ⟨_, rfl, (fun k_ j_ h_ => rfl), trivial⟩
      · cases q9
        refine dk_aload_n (pc' := 87) hE dX10_part_86 rfl rfl rfl ?_
        refine gf_10_9 (pc' := 90) hE fl_X10_82 dX10_part_87 is_0 rfl (fun v17 hv17 htv17 hbv17 => ?_)
        have hq17 : s = v17 := (show v17 = s by rw [hv17, hv1]).symm
        subst hq17
        clear htv17 hbv17
        refine gf_4_6 (pc' := 93) (w := (s + 18)) hE fl_X10_154 dX10_part_90 (sc_is (by omega)) rfl rfl ?_
        refine dk_iload_n (pc' := 94) hE dX10_part_93 rfl rfl rfl ?_
        refine ga_65 (pc' := 95) hE dX10_part_94 (sc_18 hs) (by omega) rfl (fun v18 hv18 htv18 hbv18 => ?_)
        exact dk_iret (st := []) hE hR dX10_part_95 ⟨_, rfl, (fun k_ j_ h_ => rfl), trivial⟩
      · cases q9
        refine dk_aload_n (pc' := 97) hE dX10_part_96 rfl rfl rfl ?_
        refine gf_10_9 (pc' := 100) hE fl_X10_82 dX10_part_97 is_0 rfl (fun v19 hv19 htv19 hbv19 => ?_)
        have hq19 : s = v19 := (show v19 = s by rw [hv19, hv1]).symm
        subst hq19
        clear htv19 hbv19
        refine gf_4_7 (pc' := 103) (w := (s + 19)) hE fl_X10_157 dX10_part_100 (sc_is (by omega)) rfl rfl ?_
        refine dk_iload_n (pc' := 104) hE dX10_part_103 rfl rfl rfl ?_
        refine ga_66 (pc' := 105) hE dX10_part_104 (sc_19 hs) (by omega) rfl (fun v20 hv20 htv20 hbv20 => ?_)
        exact dk_iret (st := []) hE hR dX10_part_105 ⟨_, rfl, (fun k_ j_ h_ => rfl), trivial⟩
  · skip
    refine dk_if_ne (tgt := 13) (pc' := 11) hE dX10_part_8 (by decide) rfl (fun hc21 => absurd hc21 (by decide)) (fun hc21 => ?_)
    refine dk_iconst (pc' := 12) hE dX10_part_11 (by decide) rfl ?_
    exact dk_iret (st := []) hE hR dX10_part_12 ⟨_, rfl, (fun k_ j_ h_ => rfl), trivial⟩
set_option maxHeartbeats 4000000 in
set_option maxRecDepth 20000 in
theorem ct_X10_reads (l : Launch) (G : dkG) (hGd : dk_Gd G) (r a b s : Int) : dk_Ct l G dk_Ty yX10_reads cX10_reads 4 (some .boolean) 2 190 190 (fun av σ => av = [(4, 0), (0, r), (0, a), (0, b)] ∧ (GI σ) ∧ (dk_sc s) ∧ (s = σ 0 9)) (fun _ σ r_ σ' => ∃ z : Int, r_ = some (0, z) ∧ (∀ k_ j_ : Int, ¬ ((4 ≤ k_ ∧ k_ ≤ 5)) → σ' k_ j_ = σ k_ j_) ∧ (z = 1 ∧ (0 ≤ r ∧ r ≤ 1 ∧ 0 ≤ a ∧ a ≤ 7 ∧ 0 ≤ b ∧ b ≤ 5) ∨ z = 0 ∧ ¬ (0 ≤ r ∧ r ≤ 1 ∧ 0 ≤ a ∧ a ≤ 7 ∧ 0 ≤ b ∧ b ≤ 5))) := by
  refine dk_enter hGd (by decide) (fun av σ hpre hok => ?_)
  obtain ⟨rfl, hG, hs, h09⟩ := hpre
  refine ⟨Nat.le_of_ble_eq_true rfl, fun E hE hR _ => ?_⟩
  have hi_r : dk_i32 r := dk_oki (hok _ (by simp))
  have hi_a : dk_i32 a := dk_oki (hok _ (by simp))
  have hi_b : dk_i32 b := dk_oki (hok _ (by simp))
  show dk_PJ E 0 [(4, 0), (0, r), (0, a), (0, b)] [] 190 σ
  refine dk_iload_n (pc' := 1) hE dX10_reads_0 rfl rfl rfl ?_
  refine dk_cS (pc' := 4) (as := [(0, r)]) hE lk_X10_160 (ct_X10_isReader l G hGd r) dX10_reads_1 rfl rfl (by decide) (Nat.le_of_ble_eq_true rfl) rfl rfl (fun r2 σ1 hr2 hor2 => ?_)
  obtain ⟨v3, rfl, hfσ1, hpr2⟩ := hr2
  have hsσ1 : σ = σ1 := (funext (fun k => funext (fun j => hfσ1 k j not_false))).symm
  subst hsσ1
  rcases hpr2 with ⟨rfl, hpr2⟩ | ⟨rfl, hpr2⟩
  · skip
    refine dk_if_eq (tgt := 24) (pc' := 7) hE dX10_reads_4 (by decide) rfl (fun hc4 => absurd hc4 (by decide)) (fun hc4 => ?_)
    refine dk_iload_n (pc' := 8) hE dX10_reads_7 rfl rfl rfl ?_
    refine dk_if_lt (tgt := 24) (pc' := 11) hE dX10_reads_8 (by decide) rfl (fun hc5 => ?_) (fun hc5 => ?_)
    · skip
      refine dk_iconst (pc' := 25) hE dX10_reads_24 (by decide) rfl ?_
      exact dk_zret (st := []) hE hR dX10_reads_25 (by omega) ⟨_, rfl, (fun k_ j_ h_ => rfl), by omega⟩
    · skip
      refine dk_iload_n (pc' := 12) hE dX10_reads_11 rfl rfl rfl ?_
      refine dk_bipush (pc' := 14) hE dX10_reads_12 (by decide) rfl ?_
      refine dk_icmp_ge (tgt := 24) (pc' := 17) hE dX10_reads_14 (by decide) rfl (fun hc6 => ?_) (fun hc6 => ?_)
      · skip
        refine dk_iconst (pc' := 25) hE dX10_reads_24 (by decide) rfl ?_
        exact dk_zret (st := []) hE hR dX10_reads_25 (by omega) ⟨_, rfl, (fun k_ j_ h_ => rfl), by omega⟩
      · skip
        refine dk_iload_n (pc' := 18) hE dX10_reads_17 rfl rfl rfl ?_
        refine dk_cS (pc' := 21) (as := [(0, b)]) hE lk_X10_163 (ct_X10_isStep l G hGd b) dX10_reads_18 rfl rfl (by decide) (Nat.le_of_ble_eq_true rfl) rfl rfl (fun r8 σ7 hr8 hor8 => ?_)
        obtain ⟨v9, rfl, hfσ7, hpr8⟩ := hr8
        have hsσ7 : σ = σ7 := (funext (fun k => funext (fun j => hfσ7 k j not_false))).symm
        subst hsσ7
        rcases hpr8 with ⟨rfl, hpr8⟩ | ⟨rfl, hpr8⟩
        · skip
          refine dk_if_ne (tgt := 26) (pc' := 24) hE dX10_reads_21 (by decide) rfl (fun hc10 => ?_) (fun hc10 => absurd hc10 (by decide))
          refine dk_aload_n (pc' := 27) hE dX10_reads_26 rfl rfl rfl ?_
          refine gf_10_1 (pc' := 30) (w := 3) hE fl_X10_18 dX10_reads_27 is_0 rfl rfl ?_
          refine dk_iload_n (pc' := 31) hE dX10_reads_30 rfl rfl rfl ?_
          refine ga_21 (pc' := 32) (w := (4 + r)) hE dX10_reads_31 is_3 (by omega) (by omega) rfl ?_
          refine dk_iload_n (pc' := 33) hE dX10_reads_32 rfl rfl rfl ?_
          refine dk_iload_n (pc' := 34) hE dX10_reads_33 rfl rfl rfl ?_
          refine pa_22 (pc' := 35) hE dX10_reads_34 (rw_readings (by omega)) (by omega) (by omega) rfl (fun σ11 eσ11 => ?_)
          refine dk_iconst (pc' := 36) hE dX10_reads_35 (by decide) rfl ?_
          have hw12 : 4 ≤ (4 + r) ∧ (4 + r) ≤ 5 := by omega
          exact dk_zret (st := []) hE hR dX10_reads_36 (by omega) ⟨_, rfl, (fun k_ j_ h_ => by rw [eσ11, dk_up_n (show ¬ (k_ = (4 + r) ∧ j_ = a) from fun q_ => h_ (dk_wr q_.1 hw12))]), by omega⟩
        · skip
          refine dk_if_ne (tgt := 26) (pc' := 24) hE dX10_reads_21 (by decide) rfl (fun hc13 => absurd hc13 (by decide)) (fun hc13 => ?_)
          refine dk_iconst (pc' := 25) hE dX10_reads_24 (by decide) rfl ?_
          exact dk_zret (st := []) hE hR dX10_reads_25 (by omega) ⟨_, rfl, (fun k_ j_ h_ => rfl), by omega⟩
  · skip
    refine dk_if_eq (tgt := 24) (pc' := 7) hE dX10_reads_4 (by decide) rfl (fun hc14 => ?_) (fun hc14 => absurd hc14 (by decide))
    refine dk_iconst (pc' := 25) hE dX10_reads_24 (by decide) rfl ?_
    exact dk_zret (st := []) hE hR dX10_reads_25 (by omega) ⟨_, rfl, (fun k_ j_ h_ => rfl), by omega⟩
set_option maxHeartbeats 4000000 in
set_option maxRecDepth 20000 in
theorem ct_X10_step (l : Launch) (G : dkG) (hGd : dk_Gd G) (p c r s : Int) : dk_Ct l G dk_Ty yX10_step cX10_step 4 (some .int) 2 190 190 (fun av σ => av = [(4, 0), (0, p), (0, c), (0, r)] ∧ (GI σ) ∧ (dk_sc s) ∧ (s = σ 0 9)) (fun _ σ r_ σ' => ∃ z : Int, r_ = some (0, z) ∧ (∀ k_ j_ : Int, ¬ (False) → σ' k_ j_ = σ k_ j_) ∧ (True)) := by
  refine dk_enter hGd (by decide) (fun av σ hpre hok => ?_)
  obtain ⟨rfl, hG, hs, h09⟩ := hpre
  refine ⟨Nat.le_of_ble_eq_true rfl, fun E hE hR _ => ?_⟩
  have hi_p : dk_i32 p := dk_oki (hok _ (by simp))
  have hi_c : dk_i32 c := dk_oki (hok _ (by simp))
  have hi_r : dk_i32 r := dk_oki (hok _ (by simp))
  show dk_PJ E 0 [(4, 0), (0, p), (0, c), (0, r)] [] 190 σ
  refine dk_aload_n (pc' := 1) hE dX10_step_0 rfl rfl rfl ?_
  refine gf_10_9 (pc' := 4) hE fl_X10_82 dX10_step_1 is_0 rfl (fun v1 hv1 htv1 hbv1 => ?_)
  have hq1 : s = v1 := (show v1 = s by rw [hv1, h09]).symm
  subst hq1
  clear htv1 hbv1
  refine dk_iload_n (pc' := 5) hE dX10_step_4 rfl rfl rfl ?_
  refine dk_cV (pc' := 8) (as := [(0, p)]) hE lk_X10_140 (ct_X4_isPart l G hGd s p) dX10_step_5 rfl (sc_is (by omega)) rfl (by decide) (Nat.le_of_ble_eq_true rfl) ⟨rfl, (by omega)⟩ rfl (fun r3 σ2 hr3 hor3 => ?_)
  obtain ⟨v4, rfl, hfσ2, hpr3⟩ := hr3
  have hsσ2 : σ = σ2 := (funext (fun k => funext (fun j => hfσ2 k j not_false))).symm
  subst hsσ2
  rcases hpr3 with ⟨rfl, hpr3⟩ | rfl
  · skip
    refine dk_if_eq (tgt := 18) (pc' := 11) hE dX10_step_8 (by decide) rfl (fun hc5 => absurd hc5 (by decide)) (fun hc5 => ?_)
    refine dk_iload_n (pc' := 12) hE dX10_step_11 rfl rfl rfl ?_
    refine dk_cS (pc' := 15) (as := [(0, r)]) hE lk_X10_160 (ct_X10_isReader l G hGd r) dX10_step_12 rfl rfl (by decide) (Nat.le_of_ble_eq_true rfl) rfl rfl (fun r7 σ6 hr7 hor7 => ?_)
    obtain ⟨v8, rfl, hfσ6, hpr7⟩ := hr7
    have hsσ6 : σ = σ6 := (funext (fun k => funext (fun j => hfσ6 k j not_false))).symm
    subst hsσ6
    rcases hpr7 with ⟨rfl, hpr7⟩ | ⟨rfl, hpr7⟩
    · skip
      refine dk_if_ne (tgt := 20) (pc' := 18) hE dX10_step_15 (by decide) rfl (fun hc9 => ?_) (fun hc9 => absurd hc9 (by decide))
      refine dk_aload_n (pc' := 21) hE dX10_step_20 rfl rfl rfl ?_
      refine gf_10_9 (pc' := 24) hE fl_X10_82 dX10_step_21 is_0 rfl (fun v10 hv10 htv10 hbv10 => ?_)
      have hq10 : s = v10 := (show v10 = s by rw [hv10, hv1]).symm
      subst hq10
      clear htv10 hbv10
      refine dk_iload_n (pc' := 25) hE dX10_step_24 rfl rfl rfl ?_
      refine dk_iload_n (pc' := 26) hE dX10_step_25 rfl rfl rfl ?_
      refine dk_iload_n (pc' := 27) hE dX10_step_26 rfl rfl rfl ?_
      refine dk_cV (pc' := 30) (as := [(0, p), (0, c), (0, r)]) hE lk_X10_166 (ct_X4_stepAt l G hGd s p c r) dX10_step_27 rfl (sc_is (by omega)) rfl (by decide) (Nat.le_of_ble_eq_true rfl) ⟨rfl, (by omega), hG, (by omega), (by omega)⟩ rfl (fun r12 σ11 hr12 hor12 => ?_)
      obtain ⟨v13, rfl, hfσ11, hpr12⟩ := hr12
      have hsσ11 : σ = σ11 := (funext (fun k => funext (fun j => hfσ11 k j not_false))).symm
      subst hsσ11
      exact dk_iret (st := []) hE hR dX10_step_30 ⟨_, rfl, (fun k_ j_ h_ => rfl), trivial⟩
    · skip
      refine dk_if_ne (tgt := 20) (pc' := 18) hE dX10_step_15 (by decide) rfl (fun hc14 => absurd hc14 (by decide)) (fun hc14 => ?_)
      refine dk_iconst (pc' := 19) hE dX10_step_18 (by decide) rfl ?_
      exact dk_iret (st := []) hE hR dX10_step_19 ⟨_, rfl, (fun k_ j_ h_ => rfl), trivial⟩
  · skip
    refine dk_if_eq (tgt := 18) (pc' := 11) hE dX10_step_8 (by decide) rfl (fun hc15 => ?_) (fun hc15 => absurd hc15 (by decide))
    refine dk_iconst (pc' := 19) hE dX10_step_18 (by decide) rfl ?_
    exact dk_iret (st := []) hE hR dX10_step_19 ⟨_, rfl, (fun k_ j_ h_ => rfl), trivial⟩
set_option maxHeartbeats 4000000 in
set_option maxRecDepth 20000 in
theorem ct_X10_where (l : Launch) (G : dkG) (hGd : dk_Gd G) (p c r s : Int) : dk_Ct l G dk_Ty yX10_where cX10_where 4 (some .int) 3 190 190 (fun av σ => av = [(4, 0), (0, p), (0, c), (0, r)] ∧ (GI σ) ∧ (dk_sc s) ∧ (s = σ 0 9)) (fun _ σ r_ σ' => ∃ z : Int, r_ = some (0, z) ∧ (∀ k_ j_ : Int, ¬ (False) → σ' k_ j_ = σ k_ j_) ∧ (True)) := by
  refine dk_enter hGd (by decide) (fun av σ hpre hok => ?_)
  obtain ⟨rfl, hG, hs, h09⟩ := hpre
  refine ⟨Nat.le_of_ble_eq_true rfl, fun E hE hR _ => ?_⟩
  have hi_p : dk_i32 p := dk_oki (hok _ (by simp))
  have hi_c : dk_i32 c := dk_oki (hok _ (by simp))
  have hi_r : dk_i32 r := dk_oki (hok _ (by simp))
  show dk_PJ E 0 [(4, 0), (0, p), (0, c), (0, r)] [] 190 σ
  refine dk_aload_n (pc' := 1) hE dX10_where_0 rfl rfl rfl ?_
  refine gf_10_9 (pc' := 4) hE fl_X10_82 dX10_where_1 is_0 rfl (fun v1 hv1 htv1 hbv1 => ?_)
  have hq1 : s = v1 := (show v1 = s by rw [hv1, h09]).symm
  subst hq1
  clear htv1 hbv1
  refine dk_iload_n (pc' := 5) hE dX10_where_4 rfl rfl rfl ?_
  refine dk_cV (pc' := 8) (as := [(0, p)]) hE lk_X10_140 (ct_X4_isPart l G hGd s p) dX10_where_5 rfl (sc_is (by omega)) rfl (by decide) (Nat.le_of_ble_eq_true rfl) ⟨rfl, (by omega)⟩ rfl (fun r3 σ2 hr3 hor3 => ?_)
  obtain ⟨v4, rfl, hfσ2, hpr3⟩ := hr3
  have hsσ2 : σ = σ2 := (funext (fun k => funext (fun j => hfσ2 k j not_false))).symm
  subst hsσ2
  rcases hpr3 with ⟨rfl, hpr3⟩ | rfl
  · skip
    refine dk_if_eq (tgt := 28) (pc' := 11) hE dX10_where_8 (by decide) rfl (fun hc5 => absurd hc5 (by decide)) (fun hc5 => ?_)
    refine dk_iload_n (pc' := 12) hE dX10_where_11 rfl rfl rfl ?_
    refine dk_cS (pc' := 15) (as := [(0, r)]) hE lk_X10_160 (ct_X10_isReader l G hGd r) dX10_where_12 rfl rfl (by decide) (Nat.le_of_ble_eq_true rfl) rfl rfl (fun r7 σ6 hr7 hor7 => ?_)
    obtain ⟨v8, rfl, hfσ6, hpr7⟩ := hr7
    have hsσ6 : σ = σ6 := (funext (fun k => funext (fun j => hfσ6 k j not_false))).symm
    subst hsσ6
    rcases hpr7 with ⟨rfl, hpr7⟩ | ⟨rfl, hpr7⟩
    · skip
      refine dk_if_eq (tgt := 28) (pc' := 18) hE dX10_where_15 (by decide) rfl (fun hc9 => absurd hc9 (by decide)) (fun hc9 => ?_)
      refine dk_iload_n (pc' := 19) hE dX10_where_18 rfl rfl rfl ?_
      refine dk_if_lt (tgt := 28) (pc' := 22) hE dX10_where_19 (by decide) rfl (fun hc10 => ?_) (fun hc10 => ?_)
      · skip
        refine dk_iconst (pc' := 29) hE dX10_where_28 (by decide) rfl ?_
        exact dk_iret (st := []) hE hR dX10_where_29 ⟨_, rfl, (fun k_ j_ h_ => rfl), trivial⟩
      · skip
        refine dk_iload_n (pc' := 23) hE dX10_where_22 rfl rfl rfl ?_
        refine dk_bipush (pc' := 25) hE dX10_where_23 (by decide) rfl ?_
        refine dk_icmp_le (tgt := 30) (pc' := 28) hE dX10_where_25 (by decide) rfl (fun hc11 => ?_) (fun hc11 => ?_)
        · skip
          refine dk_aload_n (pc' := 31) hE dX10_where_30 rfl rfl rfl ?_
          refine gf_10_9 (pc' := 34) hE fl_X10_82 dX10_where_31 is_0 rfl (fun v12 hv12 htv12 hbv12 => ?_)
          have hq12 : s = v12 := (show v12 = s by rw [hv12, hv1]).symm
          subst hq12
          clear htv12 hbv12
          refine dk_iload_n (pc' := 35) hE dX10_where_34 rfl rfl rfl ?_
          refine dk_iload_n (pc' := 36) hE dX10_where_35 rfl rfl rfl ?_
          refine dk_iload_n (pc' := 37) hE dX10_where_36 rfl rfl rfl ?_
          refine dk_cV (pc' := 40) (as := [(0, p), (0, c), (0, r)]) hE lk_X10_170 (ct_X4_placeBehind l G hGd s p c r) dX10_where_37 rfl (sc_is (by omega)) rfl (by decide) (Nat.le_of_ble_eq_true rfl) ⟨rfl, (by omega), hG, (by omega), (by omega)⟩ rfl (fun r14 σ13 hr14 hor14 => ?_)
          obtain ⟨v15, rfl, hfσ13, hpr14⟩ := hr14
          have hkv15 := dk_oki (hor14 _ rfl)
          have hsσ13 : σ = σ13 := (funext (fun k => funext (fun j => hfσ13 k j not_false))).symm
          subst hsσ13
          exact dk_iret (st := []) hE hR dX10_where_40 ⟨_, rfl, (fun k_ j_ h_ => rfl), trivial⟩
        · skip
          refine dk_iconst (pc' := 29) hE dX10_where_28 (by decide) rfl ?_
          exact dk_iret (st := []) hE hR dX10_where_29 ⟨_, rfl, (fun k_ j_ h_ => rfl), trivial⟩
    · skip
      refine dk_if_eq (tgt := 28) (pc' := 18) hE dX10_where_15 (by decide) rfl (fun hc16 => ?_) (fun hc16 => absurd hc16 (by decide))
      refine dk_iconst (pc' := 29) hE dX10_where_28 (by decide) rfl ?_
      exact dk_iret (st := []) hE hR dX10_where_29 ⟨_, rfl, (fun k_ j_ h_ => rfl), trivial⟩
  · skip
    refine dk_if_eq (tgt := 28) (pc' := 11) hE dX10_where_8 (by decide) rfl (fun hc17 => ?_) (fun hc17 => absurd hc17 (by decide))
    refine dk_iconst (pc' := 29) hE dX10_where_28 (by decide) rfl ?_
    exact dk_iret (st := []) hE hR dX10_where_29 ⟨_, rfl, (fun k_ j_ h_ => rfl), trivial⟩
set_option maxHeartbeats 4000000 in
set_option maxRecDepth 20000 in
theorem ct_X10_meet (l : Launch) (G : dkG) (hGd : dk_Gd G) (w r s : Int) : dk_Ct l G dk_Ty yX10_meet cX10_meet 3 (some .int) 4 190 190 (fun av σ => av = [(4, 0), (0, w), (0, r)] ∧ (GI σ) ∧ (dk_sc s) ∧ (s = σ 0 9)) (fun _ σ r_ σ' => ∃ z : Int, r_ = some (0, z) ∧ (∀ k_ j_ : Int, ¬ ((96 ≤ k_ ∧ k_ ≤ 97) ∨ (119 ≤ k_ ∧ k_ ≤ 120)) → σ' k_ j_ = σ k_ j_) ∧ (True)) := by
  refine dk_enter hGd (by decide) (fun av σ hpre hok => ?_)
  obtain ⟨rfl, hG, hs, h09⟩ := hpre
  refine ⟨Nat.le_of_ble_eq_true rfl, fun E hE hR _ => ?_⟩
  have hi_w : dk_i32 w := dk_oki (hok _ (by simp))
  have hi_r : dk_i32 r := dk_oki (hok _ (by simp))
  show dk_PJ E 0 [(4, 0), (0, w), (0, r)] [] 190 σ
  refine dk_aload_n (pc' := 1) hE dX10_meet_0 rfl rfl rfl ?_
  refine gf_10_9 (pc' := 4) hE fl_X10_82 dX10_meet_1 is_0 rfl (fun v1 hv1 htv1 hbv1 => ?_)
  have hq1 : s = v1 := (show v1 = s by rw [hv1, h09]).symm
  subst hq1
  clear htv1 hbv1
  refine dk_iload_n (pc' := 5) hE dX10_meet_4 rfl rfl rfl ?_
  refine dk_cV (pc' := 8) (as := [(0, w)]) hE lk_X10_173 (ct_X4_isWork l G hGd s w) dX10_meet_5 rfl (sc_is (by omega)) rfl (by decide) (Nat.le_of_ble_eq_true rfl) ⟨rfl, (by omega)⟩ rfl (fun r3 σ2 hr3 hor3 => ?_)
  obtain ⟨v4, rfl, hfσ2, hpr3⟩ := hr3
  have hsσ2 : σ = σ2 := (funext (fun k => funext (fun j => hfσ2 k j not_false))).symm
  subst hsσ2
  rcases hpr3 with ⟨rfl, hpr3⟩ | rfl
  · skip
    refine dk_if_eq (tgt := 18) (pc' := 11) hE dX10_meet_8 (by decide) rfl (fun hc5 => absurd hc5 (by decide)) (fun hc5 => ?_)
    refine dk_iload_n (pc' := 12) hE dX10_meet_11 rfl rfl rfl ?_
    refine dk_cS (pc' := 15) (as := [(0, r)]) hE lk_X10_160 (ct_X10_isReader l G hGd r) dX10_meet_12 rfl rfl (by decide) (Nat.le_of_ble_eq_true rfl) rfl rfl (fun r7 σ6 hr7 hor7 => ?_)
    obtain ⟨v8, rfl, hfσ6, hpr7⟩ := hr7
    have hsσ6 : σ = σ6 := (funext (fun k => funext (fun j => hfσ6 k j not_false))).symm
    subst hsσ6
    rcases hpr7 with ⟨rfl, hpr7⟩ | ⟨rfl, hpr7⟩
    · skip
      refine dk_if_ne (tgt := 20) (pc' := 18) hE dX10_meet_15 (by decide) rfl (fun hc9 => ?_) (fun hc9 => absurd hc9 (by decide))
      refine dk_aload_n (pc' := 21) hE dX10_meet_20 rfl rfl rfl ?_
      refine gf_10_9 (pc' := 24) hE fl_X10_82 dX10_meet_21 is_0 rfl (fun v10 hv10 htv10 hbv10 => ?_)
      have hq10 : s = v10 := (show v10 = s by rw [hv10, hv1]).symm
      subst hq10
      clear htv10 hbv10
      refine dk_iload_n (pc' := 25) hE dX10_meet_24 rfl rfl rfl ?_
      refine dk_iload_n (pc' := 26) hE dX10_meet_25 rfl rfl rfl ?_
      refine dk_cV (pc' := 29) (as := [(0, w), (0, r)]) hE lk_X10_176 (ct_X4_firstMeeting l G hGd s w r) dX10_meet_26 rfl (sc_is (by omega)) rfl (by decide) (Nat.le_of_ble_eq_true rfl) ⟨rfl, (by omega), hG, (by omega), (by omega)⟩ rfl (fun r12 σ11 hr12 hor12 => ?_)
      obtain ⟨v13, rfl, hfσ11, hpr12⟩ := hr12
      have hkv13 := dk_oki (hor12 _ rfl)
      exact dk_iret (st := []) hE hR dX10_meet_29 ⟨_, rfl, (fun k_ j_ h_ => by rw [hfσ11 k_ j_ (by omega)]), trivial⟩
    · skip
      refine dk_if_ne (tgt := 20) (pc' := 18) hE dX10_meet_15 (by decide) rfl (fun hc14 => absurd hc14 (by decide)) (fun hc14 => ?_)
      refine dk_iconst (pc' := 19) hE dX10_meet_18 (by decide) rfl ?_
      exact dk_iret (st := []) hE hR dX10_meet_19 ⟨_, rfl, (fun k_ j_ h_ => rfl), trivial⟩
  · skip
    refine dk_if_eq (tgt := 18) (pc' := 11) hE dX10_meet_8 (by decide) rfl (fun hc15 => ?_) (fun hc15 => absurd hc15 (by decide))
    refine dk_iconst (pc' := 19) hE dX10_meet_18 (by decide) rfl ?_
    exact dk_iret (st := []) hE hR dX10_meet_19 ⟨_, rfl, (fun k_ j_ h_ => rfl), trivial⟩
set_option maxHeartbeats 4000000 in
set_option maxRecDepth 20000 in
theorem ct_X10_breaks (l : Launch) (G : dkG) (hGd : dk_Gd G) (w r a b s : Int) : dk_Ct l G dk_Ty yX10_breaks cX10_breaks 5 (some .int) 4 190 190 (fun av σ => av = [(4, 0), (0, w), (0, r), (0, a), (0, b)] ∧ (GI σ) ∧ (dk_sc s) ∧ (s = σ 0 9)) (fun _ σ r_ σ' => ∃ z : Int, r_ = some (0, z) ∧ (∀ k_ j_ : Int, ¬ ((96 ≤ k_ ∧ k_ ≤ 97) ∨ (119 ≤ k_ ∧ k_ ≤ 120)) → σ' k_ j_ = σ k_ j_) ∧ (True)) := by
  refine dk_enter hGd (by decide) (fun av σ hpre hok => ?_)
  obtain ⟨rfl, hG, hs, h09⟩ := hpre
  refine ⟨Nat.le_of_ble_eq_true rfl, fun E hE hR _ => ?_⟩
  have hi_w : dk_i32 w := dk_oki (hok _ (by simp))
  have hi_r : dk_i32 r := dk_oki (hok _ (by simp))
  have hi_a : dk_i32 a := dk_oki (hok _ (by simp))
  have hi_b : dk_i32 b := dk_oki (hok _ (by simp))
  show dk_PJ E 0 [(4, 0), (0, w), (0, r), (0, a), (0, b)] [] 190 σ
  refine dk_aload_n (pc' := 1) hE dX10_breaks_0 rfl rfl rfl ?_
  refine gf_10_9 (pc' := 4) hE fl_X10_82 dX10_breaks_1 is_0 rfl (fun v1 hv1 htv1 hbv1 => ?_)
  have hq1 : s = v1 := (show v1 = s by rw [hv1, h09]).symm
  subst hq1
  clear htv1 hbv1
  refine dk_iload_n (pc' := 5) hE dX10_breaks_4 rfl rfl rfl ?_
  refine dk_cV (pc' := 8) (as := [(0, w)]) hE lk_X10_173 (ct_X4_isWork l G hGd s w) dX10_breaks_5 rfl (sc_is (by omega)) rfl (by decide) (Nat.le_of_ble_eq_true rfl) ⟨rfl, (by omega)⟩ rfl (fun r3 σ2 hr3 hor3 => ?_)
  obtain ⟨v4, rfl, hfσ2, hpr3⟩ := hr3
  have hsσ2 : σ = σ2 := (funext (fun k => funext (fun j => hfσ2 k j not_false))).symm
  subst hsσ2
  rcases hpr3 with ⟨rfl, hpr3⟩ | rfl
  · skip
    refine dk_if_eq (tgt := 33) (pc' := 11) hE dX10_breaks_8 (by decide) rfl (fun hc5 => absurd hc5 (by decide)) (fun hc5 => ?_)
    refine dk_iload_n (pc' := 12) hE dX10_breaks_11 rfl rfl rfl ?_
    refine dk_cS (pc' := 15) (as := [(0, r)]) hE lk_X10_160 (ct_X10_isReader l G hGd r) dX10_breaks_12 rfl rfl (by decide) (Nat.le_of_ble_eq_true rfl) rfl rfl (fun r7 σ6 hr7 hor7 => ?_)
    obtain ⟨v8, rfl, hfσ6, hpr7⟩ := hr7
    have hsσ6 : σ = σ6 := (funext (fun k => funext (fun j => hfσ6 k j not_false))).symm
    subst hsσ6
    rcases hpr7 with ⟨rfl, hpr7⟩ | ⟨rfl, hpr7⟩
    · skip
      refine dk_if_eq (tgt := 33) (pc' := 18) hE dX10_breaks_15 (by decide) rfl (fun hc9 => absurd hc9 (by decide)) (fun hc9 => ?_)
      refine dk_iload_n (pc' := 19) hE dX10_breaks_18 rfl rfl rfl ?_
      refine dk_cS (pc' := 22) (as := [(0, a)]) hE lk_X10_180 (ct_X10_isWidth l G hGd a) dX10_breaks_19 rfl rfl (by decide) (Nat.le_of_ble_eq_true rfl) rfl rfl (fun r11 σ10 hr11 hor11 => ?_)
      obtain ⟨v12, rfl, hfσ10, hpr11⟩ := hr11
      have hsσ10 : σ = σ10 := (funext (fun k => funext (fun j => hfσ10 k j not_false))).symm
      subst hsσ10
      rcases hpr11 with ⟨rfl, hpr11⟩ | ⟨rfl, hpr11⟩
      · skip
        refine dk_if_eq (tgt := 33) (pc' := 25) hE dX10_breaks_22 (by decide) rfl (fun hc13 => absurd hc13 (by decide)) (fun hc13 => ?_)
        refine dk_iload (pc' := 27) hE dX10_breaks_25 rfl rfl ?_
        refine dk_cS (pc' := 30) (as := [(0, b)]) hE lk_X10_180 (ct_X10_isWidth l G hGd b) dX10_breaks_27 rfl rfl (by decide) (Nat.le_of_ble_eq_true rfl) rfl rfl (fun r15 σ14 hr15 hor15 => ?_)
        obtain ⟨v16, rfl, hfσ14, hpr15⟩ := hr15
        have hsσ14 : σ = σ14 := (funext (fun k => funext (fun j => hfσ14 k j not_false))).symm
        subst hsσ14
        rcases hpr15 with ⟨rfl, hpr15⟩ | ⟨rfl, hpr15⟩
        · skip
          refine dk_if_ne (tgt := 35) (pc' := 33) hE dX10_breaks_30 (by decide) rfl (fun hc17 => ?_) (fun hc17 => absurd hc17 (by decide))
          refine dk_aload_n (pc' := 36) hE dX10_breaks_35 rfl rfl rfl ?_
          refine gf_10_9 (pc' := 39) hE fl_X10_82 dX10_breaks_36 is_0 rfl (fun v18 hv18 htv18 hbv18 => ?_)
          have hq18 : s = v18 := (show v18 = s by rw [hv18, hv1]).symm
          subst hq18
          clear htv18 hbv18
          refine dk_iload_n (pc' := 40) hE dX10_breaks_39 rfl rfl rfl ?_
          refine dk_iload_n (pc' := 41) hE dX10_breaks_40 rfl rfl rfl ?_
          refine dk_iload_n (pc' := 42) hE dX10_breaks_41 rfl rfl rfl ?_
          refine dk_iload (pc' := 44) hE dX10_breaks_42 rfl rfl ?_
          refine dk_cV (pc' := 47) (as := [(0, w), (0, r), (0, a), (0, b)]) hE lk_X10_183 (ct_X4_firstBreak l G hGd s w r a b) dX10_breaks_44 rfl (sc_is (by omega)) rfl (by decide) (Nat.le_of_ble_eq_true rfl) ⟨rfl, (by omega), hG, (by omega), (by omega)⟩ rfl (fun r20 σ19 hr20 hor20 => ?_)
          obtain ⟨v21, rfl, hfσ19, hpr20⟩ := hr20
          have hkv21 := dk_oki (hor20 _ rfl)
          exact dk_iret (st := []) hE hR dX10_breaks_47 ⟨_, rfl, (fun k_ j_ h_ => by rw [hfσ19 k_ j_ (by omega)]), trivial⟩
        · skip
          refine dk_if_ne (tgt := 35) (pc' := 33) hE dX10_breaks_30 (by decide) rfl (fun hc22 => absurd hc22 (by decide)) (fun hc22 => ?_)
          refine dk_iconst (pc' := 34) hE dX10_breaks_33 (by decide) rfl ?_
          exact dk_iret (st := []) hE hR dX10_breaks_34 ⟨_, rfl, (fun k_ j_ h_ => rfl), trivial⟩
      · skip
        refine dk_if_eq (tgt := 33) (pc' := 25) hE dX10_breaks_22 (by decide) rfl (fun hc23 => ?_) (fun hc23 => absurd hc23 (by decide))
        refine dk_iconst (pc' := 34) hE dX10_breaks_33 (by decide) rfl ?_
        exact dk_iret (st := []) hE hR dX10_breaks_34 ⟨_, rfl, (fun k_ j_ h_ => rfl), trivial⟩
    · skip
      refine dk_if_eq (tgt := 33) (pc' := 18) hE dX10_breaks_15 (by decide) rfl (fun hc24 => ?_) (fun hc24 => absurd hc24 (by decide))
      refine dk_iconst (pc' := 34) hE dX10_breaks_33 (by decide) rfl ?_
      exact dk_iret (st := []) hE hR dX10_breaks_34 ⟨_, rfl, (fun k_ j_ h_ => rfl), trivial⟩
  · skip
    refine dk_if_eq (tgt := 33) (pc' := 11) hE dX10_breaks_8 (by decide) rfl (fun hc25 => ?_) (fun hc25 => absurd hc25 (by decide))
    refine dk_iconst (pc' := 34) hE dX10_breaks_33 (by decide) rfl ?_
    exact dk_iret (st := []) hE hR dX10_breaks_34 ⟨_, rfl, (fun k_ j_ h_ => rfl), trivial⟩
set_option maxHeartbeats 4000000 in
set_option maxRecDepth 20000 in
theorem ct_X10_load (l : Launch) (G : dkG) (hGd : dk_Gd G) (p r s : Int) : dk_Ct l G dk_Ty yX10_load cX10_load 3 (some .int) 3 190 190 (fun av σ => av = [(4, 0), (0, p), (0, r)] ∧ (GI σ) ∧ (dk_sc s) ∧ (s = σ 0 9)) (fun _ σ r_ σ' => ∃ z : Int, r_ = some (0, z) ∧ (∀ k_ j_ : Int, ¬ (False) → σ' k_ j_ = σ k_ j_) ∧ (True)) := by
  refine dk_enter hGd (by decide) (fun av σ hpre hok => ?_)
  obtain ⟨rfl, hG, hs, h09⟩ := hpre
  refine ⟨Nat.le_of_ble_eq_true rfl, fun E hE hR _ => ?_⟩
  have hi_p : dk_i32 p := dk_oki (hok _ (by simp))
  have hi_r : dk_i32 r := dk_oki (hok _ (by simp))
  show dk_PJ E 0 [(4, 0), (0, p), (0, r)] [] 190 σ
  refine dk_aload_n (pc' := 1) hE dX10_load_0 rfl rfl rfl ?_
  refine gf_10_9 (pc' := 4) hE fl_X10_82 dX10_load_1 is_0 rfl (fun v1 hv1 htv1 hbv1 => ?_)
  have hq1 : s = v1 := (show v1 = s by rw [hv1, h09]).symm
  subst hq1
  clear htv1 hbv1
  refine dk_iload_n (pc' := 5) hE dX10_load_4 rfl rfl rfl ?_
  refine dk_cV (pc' := 8) (as := [(0, p)]) hE lk_X10_140 (ct_X4_isPart l G hGd s p) dX10_load_5 rfl (sc_is (by omega)) rfl (by decide) (Nat.le_of_ble_eq_true rfl) ⟨rfl, (by omega)⟩ rfl (fun r3 σ2 hr3 hor3 => ?_)
  obtain ⟨v4, rfl, hfσ2, hpr3⟩ := hr3
  have hsσ2 : σ = σ2 := (funext (fun k => funext (fun j => hfσ2 k j not_false))).symm
  subst hsσ2
  rcases hpr3 with ⟨rfl, hpr3⟩ | rfl
  · skip
    refine dk_if_eq (tgt := 18) (pc' := 11) hE dX10_load_8 (by decide) rfl (fun hc5 => absurd hc5 (by decide)) (fun hc5 => ?_)
    refine dk_iload_n (pc' := 12) hE dX10_load_11 rfl rfl rfl ?_
    refine dk_cS (pc' := 15) (as := [(0, r)]) hE lk_X10_160 (ct_X10_isReader l G hGd r) dX10_load_12 rfl rfl (by decide) (Nat.le_of_ble_eq_true rfl) rfl rfl (fun r7 σ6 hr7 hor7 => ?_)
    obtain ⟨v8, rfl, hfσ6, hpr7⟩ := hr7
    have hsσ6 : σ = σ6 := (funext (fun k => funext (fun j => hfσ6 k j not_false))).symm
    subst hsσ6
    rcases hpr7 with ⟨rfl, hpr7⟩ | ⟨rfl, hpr7⟩
    · skip
      refine dk_if_ne (tgt := 20) (pc' := 18) hE dX10_load_15 (by decide) rfl (fun hc9 => ?_) (fun hc9 => absurd hc9 (by decide))
      refine dk_aload_n (pc' := 21) hE dX10_load_20 rfl rfl rfl ?_
      refine gf_10_9 (pc' := 24) hE fl_X10_82 dX10_load_21 is_0 rfl (fun v10 hv10 htv10 hbv10 => ?_)
      have hq10 : s = v10 := (show v10 = s by rw [hv10, hv1]).symm
      subst hq10
      clear htv10 hbv10
      refine dk_iload_n (pc' := 25) hE dX10_load_24 rfl rfl rfl ?_
      refine dk_iload_n (pc' := 26) hE dX10_load_25 rfl rfl rfl ?_
      refine dk_cV (pc' := 29) (as := [(0, p), (0, r)]) hE lk_X10_187 (ct_X4_loadOf l G hGd s p r) dX10_load_26 rfl (sc_is (by omega)) rfl (by decide) (Nat.le_of_ble_eq_true rfl) ⟨rfl, (by omega), hG, (by omega), (by omega)⟩ rfl (fun r12 σ11 hr12 hor12 => ?_)
      obtain ⟨v13, rfl, hfσ11, hpr12⟩ := hr12
      have hsσ11 : σ = σ11 := (funext (fun k => funext (fun j => hfσ11 k j not_false))).symm
      subst hsσ11
      exact dk_iret (st := []) hE hR dX10_load_29 ⟨_, rfl, (fun k_ j_ h_ => rfl), trivial⟩
    · skip
      refine dk_if_ne (tgt := 20) (pc' := 18) hE dX10_load_15 (by decide) rfl (fun hc14 => absurd hc14 (by decide)) (fun hc14 => ?_)
      refine dk_iconst (pc' := 19) hE dX10_load_18 (by decide) rfl ?_
      exact dk_iret (st := []) hE hR dX10_load_19 ⟨_, rfl, (fun k_ j_ h_ => rfl), trivial⟩
  · skip
    refine dk_if_eq (tgt := 18) (pc' := 11) hE dX10_load_8 (by decide) rfl (fun hc15 => ?_) (fun hc15 => absurd hc15 (by decide))
    refine dk_iconst (pc' := 19) hE dX10_load_18 (by decide) rfl ?_
    exact dk_iret (st := []) hE hR dX10_load_19 ⟨_, rfl, (fun k_ j_ h_ => rfl), trivial⟩
set_option maxHeartbeats 4000000 in
set_option maxRecDepth 20000 in
theorem ct_X10_like (l : Launch) (G : dkG) (hGd : dk_Gd G) (a b r s : Int) : dk_Ct l G dk_Ty yX10_like cX10_like 4 (some .int) 3 190 190 (fun av σ => av = [(4, 0), (0, a), (0, b), (0, r)] ∧ (GI σ) ∧ (dk_sc s) ∧ (s = σ 0 9)) (fun _ σ r_ σ' => ∃ z : Int, r_ = some (0, z) ∧ (∀ k_ j_ : Int, ¬ (False) → σ' k_ j_ = σ k_ j_) ∧ (True)) := by
  refine dk_enter hGd (by decide) (fun av σ hpre hok => ?_)
  obtain ⟨rfl, hG, hs, h09⟩ := hpre
  refine ⟨Nat.le_of_ble_eq_true rfl, fun E hE hR _ => ?_⟩
  have hi_a : dk_i32 a := dk_oki (hok _ (by simp))
  have hi_b : dk_i32 b := dk_oki (hok _ (by simp))
  have hi_r : dk_i32 r := dk_oki (hok _ (by simp))
  show dk_PJ E 0 [(4, 0), (0, a), (0, b), (0, r)] [] 190 σ
  refine dk_aload_n (pc' := 1) hE dX10_like_0 rfl rfl rfl ?_
  refine gf_10_9 (pc' := 4) hE fl_X10_82 dX10_like_1 is_0 rfl (fun v1 hv1 htv1 hbv1 => ?_)
  have hq1 : s = v1 := (show v1 = s by rw [hv1, h09]).symm
  subst hq1
  clear htv1 hbv1
  refine dk_iload_n (pc' := 5) hE dX10_like_4 rfl rfl rfl ?_
  refine dk_cV (pc' := 8) (as := [(0, a)]) hE lk_X10_140 (ct_X4_isPart l G hGd s a) dX10_like_5 rfl (sc_is (by omega)) rfl (by decide) (Nat.le_of_ble_eq_true rfl) ⟨rfl, (by omega)⟩ rfl (fun r3 σ2 hr3 hor3 => ?_)
  obtain ⟨v4, rfl, hfσ2, hpr3⟩ := hr3
  have hsσ2 : σ = σ2 := (funext (fun k => funext (fun j => hfσ2 k j not_false))).symm
  subst hsσ2
  rcases hpr3 with ⟨rfl, hpr3⟩ | rfl
  · skip
    refine dk_if_eq (tgt := 29) (pc' := 11) hE dX10_like_8 (by decide) rfl (fun hc5 => absurd hc5 (by decide)) (fun hc5 => ?_)
    refine dk_aload_n (pc' := 12) hE dX10_like_11 rfl rfl rfl ?_
    refine gf_10_9 (pc' := 15) hE fl_X10_82 dX10_like_12 is_0 rfl (fun v6 hv6 htv6 hbv6 => ?_)
    have hq6 : s = v6 := (show v6 = s by rw [hv6, hv1]).symm
    subst hq6
    clear htv6 hbv6
    refine dk_iload_n (pc' := 16) hE dX10_like_15 rfl rfl rfl ?_
    refine dk_cV (pc' := 19) (as := [(0, b)]) hE lk_X10_140 (ct_X4_isPart l G hGd s b) dX10_like_16 rfl (sc_is (by omega)) rfl (by decide) (Nat.le_of_ble_eq_true rfl) ⟨rfl, (by omega)⟩ rfl (fun r8 σ7 hr8 hor8 => ?_)
    obtain ⟨v9, rfl, hfσ7, hpr8⟩ := hr8
    have hsσ7 : σ = σ7 := (funext (fun k => funext (fun j => hfσ7 k j not_false))).symm
    subst hsσ7
    rcases hpr8 with ⟨rfl, hpr8⟩ | rfl
    · skip
      refine dk_if_eq (tgt := 29) (pc' := 22) hE dX10_like_19 (by decide) rfl (fun hc10 => absurd hc10 (by decide)) (fun hc10 => ?_)
      refine dk_iload_n (pc' := 23) hE dX10_like_22 rfl rfl rfl ?_
      refine dk_cS (pc' := 26) (as := [(0, r)]) hE lk_X10_160 (ct_X10_isReader l G hGd r) dX10_like_23 rfl rfl (by decide) (Nat.le_of_ble_eq_true rfl) rfl rfl (fun r12 σ11 hr12 hor12 => ?_)
      obtain ⟨v13, rfl, hfσ11, hpr12⟩ := hr12
      have hsσ11 : σ = σ11 := (funext (fun k => funext (fun j => hfσ11 k j not_false))).symm
      subst hsσ11
      rcases hpr12 with ⟨rfl, hpr12⟩ | ⟨rfl, hpr12⟩
      · skip
        refine dk_if_ne (tgt := 31) (pc' := 29) hE dX10_like_26 (by decide) rfl (fun hc14 => ?_) (fun hc14 => absurd hc14 (by decide))
        refine dk_aload_n (pc' := 32) hE dX10_like_31 rfl rfl rfl ?_
        refine gf_10_9 (pc' := 35) hE fl_X10_82 dX10_like_32 is_0 rfl (fun v15 hv15 htv15 hbv15 => ?_)
        have hq15 : s = v15 := (show v15 = s by rw [hv15, hv6]).symm
        subst hq15
        clear htv15 hbv15
        refine dk_iload_n (pc' := 36) hE dX10_like_35 rfl rfl rfl ?_
        refine dk_iload_n (pc' := 37) hE dX10_like_36 rfl rfl rfl ?_
        refine dk_iload_n (pc' := 38) hE dX10_like_37 rfl rfl rfl ?_
        refine dk_cV (pc' := 41) (as := [(0, a), (0, b), (0, r)]) hE lk_X10_190 (ct_X4_likeness l G hGd s a b r) dX10_like_38 rfl (sc_is (by omega)) rfl (by decide) (Nat.le_of_ble_eq_true rfl) ⟨rfl, (by omega), hG, (by omega), (by omega), (by omega)⟩ rfl (fun r17 σ16 hr17 hor17 => ?_)
        obtain ⟨v18, rfl, hfσ16, hpr17⟩ := hr17
        have hsσ16 : σ = σ16 := (funext (fun k => funext (fun j => hfσ16 k j not_false))).symm
        subst hsσ16
        exact dk_iret (st := []) hE hR dX10_like_41 ⟨_, rfl, (fun k_ j_ h_ => rfl), trivial⟩
      · skip
        refine dk_if_ne (tgt := 31) (pc' := 29) hE dX10_like_26 (by decide) rfl (fun hc19 => absurd hc19 (by decide)) (fun hc19 => ?_)
        refine dk_iconst (pc' := 30) hE dX10_like_29 (by decide) rfl ?_
        exact dk_iret (st := []) hE hR dX10_like_30 ⟨_, rfl, (fun k_ j_ h_ => rfl), trivial⟩
    · skip
      refine dk_if_eq (tgt := 29) (pc' := 22) hE dX10_like_19 (by decide) rfl (fun hc20 => ?_) (fun hc20 => absurd hc20 (by decide))
      refine dk_iconst (pc' := 30) hE dX10_like_29 (by decide) rfl ?_
      exact dk_iret (st := []) hE hR dX10_like_30 ⟨_, rfl, (fun k_ j_ h_ => rfl), trivial⟩
  · skip
    refine dk_if_eq (tgt := 29) (pc' := 11) hE dX10_like_8 (by decide) rfl (fun hc21 => ?_) (fun hc21 => absurd hc21 (by decide))
    refine dk_iconst (pc' := 30) hE dX10_like_29 (by decide) rfl ?_
    exact dk_iret (st := []) hE hR dX10_like_30 ⟨_, rfl, (fun k_ j_ h_ => rfl), trivial⟩
set_option maxHeartbeats 4000000 in
set_option maxRecDepth 20000 in
theorem ct_X10_rival (l : Launch) (G : dkG) (hGd : dk_Gd G) (p s : Int) : dk_Ct l G dk_Ty yX10_rival cX10_rival 3 (some .int) 3 190 190 (fun av σ => av = [(4, 0), (0, p)] ∧ (GI σ) ∧ (dk_sc s) ∧ (s = σ 0 9)) (fun _ σ r_ σ' => ∃ z : Int, r_ = some (0, z) ∧ (∀ k_ j_ : Int, ¬ (False) → σ' k_ j_ = σ k_ j_) ∧ (True)) := by
  refine dk_enter hGd (by decide) (fun av σ hpre hok => ?_)
  obtain ⟨rfl, hG, hs, h09⟩ := hpre
  refine ⟨Nat.le_of_ble_eq_true rfl, fun E hE hR _ => ?_⟩
  have hi_p : dk_i32 p := dk_oki (hok _ (by simp))
  show dk_PJ E 0 [(4, 0), (0, p), (9, 0)] [] 190 σ
  refine dk_aload_n (pc' := 1) hE dX10_rival_0 rfl rfl rfl ?_
  refine gf_10_9 (pc' := 4) hE fl_X10_82 dX10_rival_1 is_0 rfl (fun v1 hv1 htv1 hbv1 => ?_)
  have hq1 : s = v1 := (show v1 = s by rw [hv1, h09]).symm
  subst hq1
  clear htv1 hbv1
  refine dk_iload_n (pc' := 5) hE dX10_rival_4 rfl rfl rfl ?_
  refine dk_cV (pc' := 8) (as := [(0, p)]) hE lk_X10_193 (ct_X4_isNote l G hGd s p) dX10_rival_5 rfl (sc_is (by omega)) rfl (by decide) (Nat.le_of_ble_eq_true rfl) ⟨rfl, (by omega)⟩ rfl (fun r3 σ2 hr3 hor3 => ?_)
  obtain ⟨v4, rfl, hfσ2, hpr3⟩ := hr3
  have hsσ2 : σ = σ2 := (funext (fun k => funext (fun j => hfσ2 k j not_false))).symm
  subst hsσ2
  rcases hpr3 with ⟨rfl, hpr3⟩ | rfl
  · skip
    refine dk_if_ne (tgt := 13) (pc' := 11) hE dX10_rival_8 (by decide) rfl (fun hc5 => ?_) (fun hc5 => absurd hc5 (by decide))
    refine dk_iconst (pc' := 14) hE dX10_rival_13 (by decide) rfl ?_
    refine dk_istore_n (pc' := 15) (ls' := [(4, 0), (0, p), (0, 1)]) hE dX10_rival_14 rfl rfl (by decide) rfl ?_
    have lp15 : ∀ (N_ : Nat) (i : Int) (σ15c : dkS), (2147483648 - i).toNat < N_ → ((∀ k_ j_ : Int, ¬ (False) → σ15c k_ j_ = σ k_ j_)) → (0 ≤ i) → dk_PJ E 15 [(4, 0), (0, p), (0, i)] [] 190 σ15c := by
      intro N15
      induction N15 with
      | zero => intro i σ15c hm; exact absurd hm (Nat.not_lt_zero _)
      | succ N15 ih15 =>
        intro i σ15c hm15 hF15 hi0
        refine dk_iload_n (pc' := 16) hE dX10_rival_15 rfl rfl rfl ?_
        refine dk_aload_n (pc' := 17) hE dX10_rival_16 rfl rfl rfl ?_
        refine gf_10_9 (pc' := 20) hE fl_X10_82 dX10_rival_17 is_0 rfl (fun v6 hv6 htv6 hbv6 => ?_)
        have hq6 : s = v6 := (show v6 = s by rw [hv6, hF15 0 9 not_false, hv1]).symm
        subst hq6
        clear htv6 hbv6
        refine gf_4_5 (pc' := 23) (w := (s + 17)) hE fl_X10_147 dX10_rival_20 (sc_is (by omega)) rfl rfl ?_
        refine dk_iload_n (pc' := 24) hE dX10_rival_23 rfl rfl rfl ?_
        refine ga_64 (pc' := 25) hE dX10_rival_24 (sc_17 hs) (by omega) rfl (fun v7 hv7 htv7 hbv7 => ?_)
        refine dk_icmp_gt (tgt := 59) (pc' := 28) hE dX10_rival_25 (by decide) rfl (fun hc8 => ?_) (fun hc8 => ?_)
        · skip
          refine dk_iconst (pc' := 60) hE dX10_rival_59 (by decide) rfl ?_
          exact dk_iret (st := []) hE hR dX10_rival_60 ⟨_, rfl, (fun k_ j_ h_ => by rw [hF15 k_ j_ not_false]), trivial⟩
        · skip
          refine dk_aload_n (pc' := 29) hE dX10_rival_28 rfl rfl rfl ?_
          refine gf_10_9 (pc' := 32) hE fl_X10_82 dX10_rival_29 is_0 rfl (fun v9 hv9 htv9 hbv9 => ?_)
          have hq9 : s = v9 := (show v9 = s by rw [hv9, hv6]).symm
          subst hq9
          clear htv9 hbv9
          refine dk_iload_n (pc' := 33) hE dX10_rival_32 rfl rfl rfl ?_
          refine dk_iload_n (pc' := 34) hE dX10_rival_33 rfl rfl rfl ?_
          refine dk_iconst (pc' := 35) hE dX10_rival_34 (by decide) rfl ?_
          have gi10 : GI σ15c := GI_fr hG (fun k_ j_ h_ => by rw [hF15 k_ j_ not_false])
          refine dk_cV (pc' := 38) (as := [(0, p), (0, i), (0, 0)]) hE lk_X10_166 (ct_X4_stepAt l G hGd s p i 0) dX10_rival_35 rfl (sc_is (by omega)) rfl (by decide) (Nat.le_of_ble_eq_true rfl) ⟨rfl, (by omega), gi10, (by omega), (by omega)⟩ rfl (fun r12 σ11 hr12 hor12 => ?_)
          obtain ⟨v13, rfl, hfσ11, hpr12⟩ := hr12
          have hsσ11 : σ15c = σ11 := (funext (fun k => funext (fun j => hfσ11 k j not_false))).symm
          subst hsσ11
          refine dk_aload_n (pc' := 39) hE dX10_rival_38 rfl rfl rfl ?_
          refine gf_10_9 (pc' := 42) hE fl_X10_82 dX10_rival_39 is_0 rfl (fun v14 hv14 htv14 hbv14 => ?_)
          have hq14 : s = v14 := (show v14 = s by rw [hv14, hv9]).symm
          subst hq14
          clear htv14 hbv14
          refine dk_iload_n (pc' := 43) hE dX10_rival_42 rfl rfl rfl ?_
          refine dk_iload_n (pc' := 44) hE dX10_rival_43 rfl rfl rfl ?_
          refine dk_iconst (pc' := 45) hE dX10_rival_44 (by decide) rfl ?_
          refine dk_cV (pc' := 48) (as := [(0, p), (0, i), (0, 1)]) hE lk_X10_166 (ct_X4_stepAt l G hGd s p i 1) dX10_rival_45 rfl (sc_is (by omega)) rfl (by decide) (Nat.le_of_ble_eq_true rfl) ⟨rfl, (by omega), gi10, (by omega), (by omega)⟩ rfl (fun r16 σ15 hr16 hor16 => ?_)
          obtain ⟨v17, rfl, hfσ15, hpr16⟩ := hr16
          have hsσ15 : σ15c = σ15 := (funext (fun k => funext (fun j => hfσ15 k j not_false))).symm
          subst hsσ15
          refine dk_icmp_eq (tgt := 53) (pc' := 51) hE dX10_rival_48 (by decide) rfl (fun hc18 => ?_) (fun hc18 => ?_)
          · skip
            obtain ⟨v19, hv19⟩ : ∃ z : Int, z = i + 1 := ⟨_, rfl⟩
            refine dk_iinc (pc' := 56) (ls' := [(4, 0), (0, p), (0, v19)]) hE dX10_rival_53 rfl hv19.symm (by omega) rfl (by decide) rfl ?_
            refine dk_goto (tgt := 15) hE dX10_rival_56 (by decide) ?_
            exact ih15 v19 σ15c (by omega) (fun k_ j_ h_ => by rw [hF15 k_ j_ not_false]) (by omega)
          · skip
            refine dk_iload_n (pc' := 52) hE dX10_rival_51 rfl rfl rfl ?_
            exact dk_iret (st := []) hE hR dX10_rival_52 ⟨_, rfl, (fun k_ j_ h_ => by rw [hF15 k_ j_ not_false]), trivial⟩
    exact lp15 _ 1 σ (Nat.lt_succ_self _) (fun k_ j_ h_ => rfl) (by omega)
  · skip
    refine dk_if_ne (tgt := 13) (pc' := 11) hE dX10_rival_8 (by decide) rfl (fun hc20 => absurd hc20 (by decide)) (fun hc20 => ?_)
    refine dk_iconst (pc' := 12) hE dX10_rival_11 (by decide) rfl ?_
    exact dk_iret (st := []) hE hR dX10_rival_12 ⟨_, rfl, (fun k_ j_ h_ => rfl), trivial⟩
set_option maxHeartbeats 4000000 in
set_option maxRecDepth 20000 in
theorem ct_X10_knows (l : Launch) (G : dkG) (hGd : dk_Gd G) (b p d s : Int) : dk_Ct l G dk_Ty yX10_knows cX10_knows 4 (some .int) 2 190 190 (fun av σ => av = [(4, 0), (0, b), (0, p), (0, d)] ∧ (GI σ) ∧ (dk_sc s) ∧ (s = σ 0 9)) (fun _ σ r_ σ' => ∃ z : Int, r_ = some (0, z) ∧ (∀ k_ j_ : Int, ¬ ((k_ = 37 ∧ j_ = 7) ∨ (38 ≤ k_ ∧ k_ ≤ 44)) → σ' k_ j_ = σ k_ j_) ∧ (True)) := by
  refine dk_enter hGd (by decide) (fun av σ hpre hok => ?_)
  obtain ⟨rfl, hG, hs, h09⟩ := hpre
  refine ⟨Nat.le_of_ble_eq_true rfl, fun E hE hR _ => ?_⟩
  have hi_b : dk_i32 b := dk_oki (hok _ (by simp))
  have hi_p : dk_i32 p := dk_oki (hok _ (by simp))
  have hi_d : dk_i32 d := dk_oki (hok _ (by simp))
  show dk_PJ E 0 [(4, 0), (0, b), (0, p), (0, d)] [] 190 σ
  refine dk_aload_n (pc' := 1) hE dX10_knows_0 rfl rfl rfl ?_
  refine dk_iload_n (pc' := 2) hE dX10_knows_1 rfl rfl rfl ?_
  refine dk_cV (pc' := 5) (as := [(0, b)]) hE lk_X10_196 (ct_X10_isBody l G hGd b) dX10_knows_2 rfl is_0 rfl (by decide) (Nat.le_of_ble_eq_true rfl) rfl rfl (fun r2 σ1 hr2 hor2 => ?_)
  obtain ⟨v3, rfl, hfσ1, hpr2⟩ := hr2
  have hsσ1 : σ = σ1 := (funext (fun k => funext (fun j => hfσ1 k j not_false))).symm
  subst hsσ1
  rcases hpr2 with ⟨rfl, hpr2⟩ | rfl
  · skip
    refine dk_if_eq (tgt := 26) (pc' := 8) hE dX10_knows_5 (by decide) rfl (fun hc4 => absurd hc4 (by decide)) (fun hc4 => ?_)
    refine dk_aload_n (pc' := 9) hE dX10_knows_8 rfl rfl rfl ?_
    refine gf_10_9 (pc' := 12) hE fl_X10_82 dX10_knows_9 is_0 rfl (fun v5 hv5 htv5 hbv5 => ?_)
    have hq5 : s = v5 := (show v5 = s by rw [hv5, h09]).symm
    subst hq5
    clear htv5 hbv5
    refine dk_iload_n (pc' := 13) hE dX10_knows_12 rfl rfl rfl ?_
    refine dk_cV (pc' := 16) (as := [(0, p)]) hE lk_X10_140 (ct_X4_isPart l G hGd s p) dX10_knows_13 rfl (sc_is (by omega)) rfl (by decide) (Nat.le_of_ble_eq_true rfl) ⟨rfl, (by omega)⟩ rfl (fun r7 σ6 hr7 hor7 => ?_)
    obtain ⟨v8, rfl, hfσ6, hpr7⟩ := hr7
    have hsσ6 : σ = σ6 := (funext (fun k => funext (fun j => hfσ6 k j not_false))).symm
    subst hsσ6
    rcases hpr7 with ⟨rfl, hpr7⟩ | rfl
    · skip
      refine dk_if_eq (tgt := 26) (pc' := 19) hE dX10_knows_16 (by decide) rfl (fun hc9 => absurd hc9 (by decide)) (fun hc9 => ?_)
      refine dk_iload_n (pc' := 20) hE dX10_knows_19 rfl rfl rfl ?_
      refine dk_cS (pc' := 23) (as := [(0, d)]) hE lk_X10_128 (ct_X10_isDay l G hGd d) dX10_knows_20 rfl rfl (by decide) (Nat.le_of_ble_eq_true rfl) rfl rfl (fun r11 σ10 hr11 hor11 => ?_)
      obtain ⟨v12, rfl, hfσ10, hpr11⟩ := hr11
      have hsσ10 : σ = σ10 := (funext (fun k => funext (fun j => hfσ10 k j not_false))).symm
      subst hsσ10
      rcases hpr11 with ⟨rfl, hpr11⟩ | ⟨rfl, hpr11⟩
      · skip
        refine dk_if_ne (tgt := 28) (pc' := 26) hE dX10_knows_23 (by decide) rfl (fun hc13 => ?_) (fun hc13 => absurd hc13 (by decide))
        refine dk_aload_n (pc' := 29) hE dX10_knows_28 rfl rfl rfl ?_
        refine gf_10_5 (pc' := 32) (w := 37) hE fl_X10_54 dX10_knows_29 is_0 rfl rfl ?_
        refine dk_iconst (pc' := 33) hE dX10_knows_32 (by decide) rfl ?_
        refine dk_iload_n (pc' := 34) hE dX10_knows_33 rfl rfl rfl ?_
        refine dk_iload_n (pc' := 35) hE dX10_knows_34 rfl rfl rfl ?_
        refine dk_iload_n (pc' := 36) hE dX10_knows_35 rfl rfl rfl ?_
        refine dk_iload_n (pc' := 37) hE dX10_knows_36 rfl rfl rfl ?_
        refine dk_cV (pc' := 40) (as := [(0, 0), (0, b), (0, p), (0, d), (0, d)]) hE lk_X10_199 (ct_X1_tell l G hGd 0 b p d d) dX10_knows_37 rfl is_37 rfl (by decide) (Nat.le_of_ble_eq_true rfl) ⟨rfl, (by omega), (by omega), (by omega), (by omega), (by omega)⟩ rfl (fun r15 σ14 hr15 hor15 => ?_)
        obtain ⟨v16, rfl, hfσ14, hpr15⟩ := hr15
        have hkv16 := dk_oki (hor15 _ rfl)
        exact dk_iret (st := []) hE hR dX10_knows_40 ⟨_, rfl, (fun k_ j_ h_ => by rw [hfσ14 k_ j_ (fun w_ => h_ (w_.elim (fun x0_ => Or.inl (x0_)) (fun y0_ => Or.inr (y0_))))]), trivial⟩
      · skip
        refine dk_if_ne (tgt := 28) (pc' := 26) hE dX10_knows_23 (by decide) rfl (fun hc17 => absurd hc17 (by decide)) (fun hc17 => ?_)
        refine dk_iconst (pc' := 27) hE dX10_knows_26 (by decide) rfl ?_
        exact dk_iret (st := []) hE hR dX10_knows_27 ⟨_, rfl, (fun k_ j_ h_ => rfl), trivial⟩
    · skip
      refine dk_if_eq (tgt := 26) (pc' := 19) hE dX10_knows_16 (by decide) rfl (fun hc18 => ?_) (fun hc18 => absurd hc18 (by decide))
      refine dk_iconst (pc' := 27) hE dX10_knows_26 (by decide) rfl ?_
      exact dk_iret (st := []) hE hR dX10_knows_27 ⟨_, rfl, (fun k_ j_ h_ => rfl), trivial⟩
  · skip
    refine dk_if_eq (tgt := 26) (pc' := 8) hE dX10_knows_5 (by decide) rfl (fun hc19 => ?_) (fun hc19 => absurd hc19 (by decide))
    refine dk_iconst (pc' := 27) hE dX10_knows_26 (by decide) rfl ?_
    exact dk_iret (st := []) hE hR dX10_knows_27 ⟨_, rfl, (fun k_ j_ h_ => rfl), trivial⟩
set_option maxHeartbeats 4000000 in
set_option maxRecDepth 20000 in
theorem ct_X10_danced (l : Launch) (G : dkG) (hGd : dk_Gd G) (b p d s : Int) : dk_Ct l G dk_Ty yX10_danced cX10_danced 4 (some .int) 2 190 190 (fun av σ => av = [(4, 0), (0, b), (0, p), (0, d)] ∧ (GI σ) ∧ (dk_sc s) ∧ (s = σ 0 9)) (fun _ σ r_ σ' => ∃ z : Int, r_ = some (0, z) ∧ (∀ k_ j_ : Int, ¬ ((k_ = 37 ∧ j_ = 7) ∨ (38 ≤ k_ ∧ k_ ≤ 44)) → σ' k_ j_ = σ k_ j_) ∧ (True)) := by
  refine dk_enter hGd (by decide) (fun av σ hpre hok => ?_)
  obtain ⟨rfl, hG, hs, h09⟩ := hpre
  refine ⟨Nat.le_of_ble_eq_true rfl, fun E hE hR _ => ?_⟩
  have hi_b : dk_i32 b := dk_oki (hok _ (by simp))
  have hi_p : dk_i32 p := dk_oki (hok _ (by simp))
  have hi_d : dk_i32 d := dk_oki (hok _ (by simp))
  show dk_PJ E 0 [(4, 0), (0, b), (0, p), (0, d)] [] 190 σ
  refine dk_aload_n (pc' := 1) hE dX10_danced_0 rfl rfl rfl ?_
  refine dk_iload_n (pc' := 2) hE dX10_danced_1 rfl rfl rfl ?_
  refine dk_cV (pc' := 5) (as := [(0, b)]) hE lk_X10_196 (ct_X10_isBody l G hGd b) dX10_danced_2 rfl is_0 rfl (by decide) (Nat.le_of_ble_eq_true rfl) rfl rfl (fun r2 σ1 hr2 hor2 => ?_)
  obtain ⟨v3, rfl, hfσ1, hpr2⟩ := hr2
  have hsσ1 : σ = σ1 := (funext (fun k => funext (fun j => hfσ1 k j not_false))).symm
  subst hsσ1
  rcases hpr2 with ⟨rfl, hpr2⟩ | rfl
  · skip
    refine dk_if_eq (tgt := 26) (pc' := 8) hE dX10_danced_5 (by decide) rfl (fun hc4 => absurd hc4 (by decide)) (fun hc4 => ?_)
    refine dk_aload_n (pc' := 9) hE dX10_danced_8 rfl rfl rfl ?_
    refine gf_10_9 (pc' := 12) hE fl_X10_82 dX10_danced_9 is_0 rfl (fun v5 hv5 htv5 hbv5 => ?_)
    have hq5 : s = v5 := (show v5 = s by rw [hv5, h09]).symm
    subst hq5
    clear htv5 hbv5
    refine dk_iload_n (pc' := 13) hE dX10_danced_12 rfl rfl rfl ?_
    refine dk_cV (pc' := 16) (as := [(0, p)]) hE lk_X10_140 (ct_X4_isPart l G hGd s p) dX10_danced_13 rfl (sc_is (by omega)) rfl (by decide) (Nat.le_of_ble_eq_true rfl) ⟨rfl, (by omega)⟩ rfl (fun r7 σ6 hr7 hor7 => ?_)
    obtain ⟨v8, rfl, hfσ6, hpr7⟩ := hr7
    have hsσ6 : σ = σ6 := (funext (fun k => funext (fun j => hfσ6 k j not_false))).symm
    subst hsσ6
    rcases hpr7 with ⟨rfl, hpr7⟩ | rfl
    · skip
      refine dk_if_eq (tgt := 26) (pc' := 19) hE dX10_danced_16 (by decide) rfl (fun hc9 => absurd hc9 (by decide)) (fun hc9 => ?_)
      refine dk_iload_n (pc' := 20) hE dX10_danced_19 rfl rfl rfl ?_
      refine dk_cS (pc' := 23) (as := [(0, d)]) hE lk_X10_128 (ct_X10_isDay l G hGd d) dX10_danced_20 rfl rfl (by decide) (Nat.le_of_ble_eq_true rfl) rfl rfl (fun r11 σ10 hr11 hor11 => ?_)
      obtain ⟨v12, rfl, hfσ10, hpr11⟩ := hr11
      have hsσ10 : σ = σ10 := (funext (fun k => funext (fun j => hfσ10 k j not_false))).symm
      subst hsσ10
      rcases hpr11 with ⟨rfl, hpr11⟩ | ⟨rfl, hpr11⟩
      · skip
        refine dk_if_ne (tgt := 28) (pc' := 26) hE dX10_danced_23 (by decide) rfl (fun hc13 => ?_) (fun hc13 => absurd hc13 (by decide))
        refine dk_aload_n (pc' := 29) hE dX10_danced_28 rfl rfl rfl ?_
        refine gf_10_5 (pc' := 32) (w := 37) hE fl_X10_54 dX10_danced_29 is_0 rfl rfl ?_
        refine dk_iconst (pc' := 33) hE dX10_danced_32 (by decide) rfl ?_
        refine dk_iload_n (pc' := 34) hE dX10_danced_33 rfl rfl rfl ?_
        refine dk_iload_n (pc' := 35) hE dX10_danced_34 rfl rfl rfl ?_
        refine dk_iload_n (pc' := 36) hE dX10_danced_35 rfl rfl rfl ?_
        refine dk_iload_n (pc' := 37) hE dX10_danced_36 rfl rfl rfl ?_
        refine dk_cV (pc' := 40) (as := [(0, 1), (0, b), (0, p), (0, d), (0, d)]) hE lk_X10_199 (ct_X1_tell l G hGd 1 b p d d) dX10_danced_37 rfl is_37 rfl (by decide) (Nat.le_of_ble_eq_true rfl) ⟨rfl, (by omega), (by omega), (by omega), (by omega), (by omega)⟩ rfl (fun r15 σ14 hr15 hor15 => ?_)
        obtain ⟨v16, rfl, hfσ14, hpr15⟩ := hr15
        have hkv16 := dk_oki (hor15 _ rfl)
        exact dk_iret (st := []) hE hR dX10_danced_40 ⟨_, rfl, (fun k_ j_ h_ => by rw [hfσ14 k_ j_ (fun w_ => h_ (w_.elim (fun x0_ => Or.inl (x0_)) (fun y0_ => Or.inr (y0_))))]), trivial⟩
      · skip
        refine dk_if_ne (tgt := 28) (pc' := 26) hE dX10_danced_23 (by decide) rfl (fun hc17 => absurd hc17 (by decide)) (fun hc17 => ?_)
        refine dk_iconst (pc' := 27) hE dX10_danced_26 (by decide) rfl ?_
        exact dk_iret (st := []) hE hR dX10_danced_27 ⟨_, rfl, (fun k_ j_ h_ => rfl), trivial⟩
    · skip
      refine dk_if_eq (tgt := 26) (pc' := 19) hE dX10_danced_16 (by decide) rfl (fun hc18 => ?_) (fun hc18 => absurd hc18 (by decide))
      refine dk_iconst (pc' := 27) hE dX10_danced_26 (by decide) rfl ?_
      exact dk_iret (st := []) hE hR dX10_danced_27 ⟨_, rfl, (fun k_ j_ h_ => rfl), trivial⟩
  · skip
    refine dk_if_eq (tgt := 26) (pc' := 8) hE dX10_danced_5 (by decide) rfl (fun hc19 => ?_) (fun hc19 => absurd hc19 (by decide))
    refine dk_iconst (pc' := 27) hE dX10_danced_26 (by decide) rfl ?_
    exact dk_iret (st := []) hE hR dX10_danced_27 ⟨_, rfl, (fun k_ j_ h_ => rfl), trivial⟩
set_option maxHeartbeats 4000000 in
set_option maxRecDepth 20000 in
theorem ct_X10_out (l : Launch) (G : dkG) (hGd : dk_Gd G) (b d e s : Int) : dk_Ct l G dk_Ty yX10_out cX10_out 4 (some .int) 2 190 190 (fun av σ => av = [(4, 0), (0, b), (0, d), (0, e)] ∧ (GI σ) ∧ (dk_sc s) ∧ (s = σ 0 9)) (fun _ σ r_ σ' => ∃ z : Int, r_ = some (0, z) ∧ (∀ k_ j_ : Int, ¬ ((k_ = 37 ∧ j_ = 7) ∨ (38 ≤ k_ ∧ k_ ≤ 44)) → σ' k_ j_ = σ k_ j_) ∧ (True)) := by
  refine dk_enter hGd (by decide) (fun av σ hpre hok => ?_)
  obtain ⟨rfl, hG, hs, h09⟩ := hpre
  refine ⟨Nat.le_of_ble_eq_true rfl, fun E hE hR _ => ?_⟩
  have hi_b : dk_i32 b := dk_oki (hok _ (by simp))
  have hi_d : dk_i32 d := dk_oki (hok _ (by simp))
  have hi_e : dk_i32 e := dk_oki (hok _ (by simp))
  show dk_PJ E 0 [(4, 0), (0, b), (0, d), (0, e)] [] 190 σ
  refine dk_aload_n (pc' := 1) hE dX10_out_0 rfl rfl rfl ?_
  refine dk_iload_n (pc' := 2) hE dX10_out_1 rfl rfl rfl ?_
  refine dk_cV (pc' := 5) (as := [(0, b)]) hE lk_X10_196 (ct_X10_isBody l G hGd b) dX10_out_2 rfl is_0 rfl (by decide) (Nat.le_of_ble_eq_true rfl) rfl rfl (fun r2 σ1 hr2 hor2 => ?_)
  obtain ⟨v3, rfl, hfσ1, hpr2⟩ := hr2
  have hsσ1 : σ = σ1 := (funext (fun k => funext (fun j => hfσ1 k j not_false))).symm
  subst hsσ1
  rcases hpr2 with ⟨rfl, hpr2⟩ | rfl
  · skip
    refine dk_if_eq (tgt := 27) (pc' := 8) hE dX10_out_5 (by decide) rfl (fun hc4 => absurd hc4 (by decide)) (fun hc4 => ?_)
    refine dk_iload_n (pc' := 9) hE dX10_out_8 rfl rfl rfl ?_
    refine dk_cS (pc' := 12) (as := [(0, d)]) hE lk_X10_128 (ct_X10_isDay l G hGd d) dX10_out_9 rfl rfl (by decide) (Nat.le_of_ble_eq_true rfl) rfl rfl (fun r6 σ5 hr6 hor6 => ?_)
    obtain ⟨v7, rfl, hfσ5, hpr6⟩ := hr6
    have hsσ5 : σ = σ5 := (funext (fun k => funext (fun j => hfσ5 k j not_false))).symm
    subst hsσ5
    rcases hpr6 with ⟨rfl, hpr6⟩ | ⟨rfl, hpr6⟩
    · skip
      refine dk_if_eq (tgt := 27) (pc' := 15) hE dX10_out_12 (by decide) rfl (fun hc8 => absurd hc8 (by decide)) (fun hc8 => ?_)
      refine dk_iload_n (pc' := 16) hE dX10_out_15 rfl rfl rfl ?_
      refine dk_cS (pc' := 19) (as := [(0, e)]) hE lk_X10_128 (ct_X10_isDay l G hGd e) dX10_out_16 rfl rfl (by decide) (Nat.le_of_ble_eq_true rfl) rfl rfl (fun r10 σ9 hr10 hor10 => ?_)
      obtain ⟨v11, rfl, hfσ9, hpr10⟩ := hr10
      have hsσ9 : σ = σ9 := (funext (fun k => funext (fun j => hfσ9 k j not_false))).symm
      subst hsσ9
      rcases hpr10 with ⟨rfl, hpr10⟩ | ⟨rfl, hpr10⟩
      · skip
        refine dk_if_eq (tgt := 27) (pc' := 22) hE dX10_out_19 (by decide) rfl (fun hc12 => absurd hc12 (by decide)) (fun hc12 => ?_)
        refine dk_iload_n (pc' := 23) hE dX10_out_22 rfl rfl rfl ?_
        refine dk_iload_n (pc' := 24) hE dX10_out_23 rfl rfl rfl ?_
        refine dk_icmp_ge (tgt := 29) (pc' := 27) hE dX10_out_24 (by decide) rfl (fun hc13 => ?_) (fun hc13 => ?_)
        · skip
          refine dk_aload_n (pc' := 30) hE dX10_out_29 rfl rfl rfl ?_
          refine gf_10_5 (pc' := 33) (w := 37) hE fl_X10_54 dX10_out_30 is_0 rfl rfl ?_
          refine dk_iconst (pc' := 34) hE dX10_out_33 (by decide) rfl ?_
          refine dk_iload_n (pc' := 35) hE dX10_out_34 rfl rfl rfl ?_
          refine dk_iconst (pc' := 36) hE dX10_out_35 (by decide) rfl ?_
          refine dk_iload_n (pc' := 37) hE dX10_out_36 rfl rfl rfl ?_
          refine dk_iload_n (pc' := 38) hE dX10_out_37 rfl rfl rfl ?_
          refine dk_cV (pc' := 41) (as := [(0, 2), (0, b), (0, 0), (0, d), (0, e)]) hE lk_X10_199 (ct_X1_tell l G hGd 2 b 0 d e) dX10_out_38 rfl is_37 rfl (by decide) (Nat.le_of_ble_eq_true rfl) ⟨rfl, (by omega), (by omega), (by omega), (by omega), (by omega)⟩ rfl (fun r15 σ14 hr15 hor15 => ?_)
          obtain ⟨v16, rfl, hfσ14, hpr15⟩ := hr15
          have hkv16 := dk_oki (hor15 _ rfl)
          exact dk_iret (st := []) hE hR dX10_out_41 ⟨_, rfl, (fun k_ j_ h_ => by rw [hfσ14 k_ j_ (fun w_ => h_ (w_.elim (fun x0_ => Or.inl (x0_)) (fun y0_ => Or.inr (y0_))))]), trivial⟩
        · skip
          refine dk_iconst (pc' := 28) hE dX10_out_27 (by decide) rfl ?_
          exact dk_iret (st := []) hE hR dX10_out_28 ⟨_, rfl, (fun k_ j_ h_ => rfl), trivial⟩
      · skip
        refine dk_if_eq (tgt := 27) (pc' := 22) hE dX10_out_19 (by decide) rfl (fun hc17 => ?_) (fun hc17 => absurd hc17 (by decide))
        refine dk_iconst (pc' := 28) hE dX10_out_27 (by decide) rfl ?_
        exact dk_iret (st := []) hE hR dX10_out_28 ⟨_, rfl, (fun k_ j_ h_ => rfl), trivial⟩
    · skip
      refine dk_if_eq (tgt := 27) (pc' := 15) hE dX10_out_12 (by decide) rfl (fun hc18 => ?_) (fun hc18 => absurd hc18 (by decide))
      refine dk_iconst (pc' := 28) hE dX10_out_27 (by decide) rfl ?_
      exact dk_iret (st := []) hE hR dX10_out_28 ⟨_, rfl, (fun k_ j_ h_ => rfl), trivial⟩
  · skip
    refine dk_if_eq (tgt := 27) (pc' := 8) hE dX10_out_5 (by decide) rfl (fun hc19 => ?_) (fun hc19 => absurd hc19 (by decide))
    refine dk_iconst (pc' := 28) hE dX10_out_27 (by decide) rfl ?_
    exact dk_iret (st := []) hE hR dX10_out_28 ⟨_, rfl, (fun k_ j_ h_ => rfl), trivial⟩
set_option maxHeartbeats 4000000 in
set_option maxRecDepth 20000 in
theorem ct_X10_leaves (l : Launch) (G : dkG) (hGd : dk_Gd G) (b d s : Int) : dk_Ct l G dk_Ty yX10_leaves cX10_leaves 3 (some .int) 2 190 190 (fun av σ => av = [(4, 0), (0, b), (0, d)] ∧ (GI σ) ∧ (dk_sc s) ∧ (s = σ 0 9)) (fun _ σ r_ σ' => ∃ z : Int, r_ = some (0, z) ∧ (∀ k_ j_ : Int, ¬ ((k_ = 37 ∧ j_ = 7) ∨ (38 ≤ k_ ∧ k_ ≤ 44)) → σ' k_ j_ = σ k_ j_) ∧ (True)) := by
  refine dk_enter hGd (by decide) (fun av σ hpre hok => ?_)
  obtain ⟨rfl, hG, hs, h09⟩ := hpre
  refine ⟨Nat.le_of_ble_eq_true rfl, fun E hE hR _ => ?_⟩
  have hi_b : dk_i32 b := dk_oki (hok _ (by simp))
  have hi_d : dk_i32 d := dk_oki (hok _ (by simp))
  show dk_PJ E 0 [(4, 0), (0, b), (0, d)] [] 190 σ
  refine dk_aload_n (pc' := 1) hE dX10_leaves_0 rfl rfl rfl ?_
  refine dk_iload_n (pc' := 2) hE dX10_leaves_1 rfl rfl rfl ?_
  refine dk_cV (pc' := 5) (as := [(0, b)]) hE lk_X10_196 (ct_X10_isBody l G hGd b) dX10_leaves_2 rfl is_0 rfl (by decide) (Nat.le_of_ble_eq_true rfl) rfl rfl (fun r2 σ1 hr2 hor2 => ?_)
  obtain ⟨v3, rfl, hfσ1, hpr2⟩ := hr2
  have hsσ1 : σ = σ1 := (funext (fun k => funext (fun j => hfσ1 k j not_false))).symm
  subst hsσ1
  rcases hpr2 with ⟨rfl, hpr2⟩ | rfl
  · skip
    refine dk_if_eq (tgt := 15) (pc' := 8) hE dX10_leaves_5 (by decide) rfl (fun hc4 => absurd hc4 (by decide)) (fun hc4 => ?_)
    refine dk_iload_n (pc' := 9) hE dX10_leaves_8 rfl rfl rfl ?_
    refine dk_cS (pc' := 12) (as := [(0, d)]) hE lk_X10_128 (ct_X10_isDay l G hGd d) dX10_leaves_9 rfl rfl (by decide) (Nat.le_of_ble_eq_true rfl) rfl rfl (fun r6 σ5 hr6 hor6 => ?_)
    obtain ⟨v7, rfl, hfσ5, hpr6⟩ := hr6
    have hsσ5 : σ = σ5 := (funext (fun k => funext (fun j => hfσ5 k j not_false))).symm
    subst hsσ5
    rcases hpr6 with ⟨rfl, hpr6⟩ | ⟨rfl, hpr6⟩
    · skip
      refine dk_if_ne (tgt := 17) (pc' := 15) hE dX10_leaves_12 (by decide) rfl (fun hc8 => ?_) (fun hc8 => absurd hc8 (by decide))
      refine dk_aload_n (pc' := 18) hE dX10_leaves_17 rfl rfl rfl ?_
      refine gf_10_5 (pc' := 21) (w := 37) hE fl_X10_54 dX10_leaves_18 is_0 rfl rfl ?_
      refine dk_iconst (pc' := 22) hE dX10_leaves_21 (by decide) rfl ?_
      refine dk_iload_n (pc' := 23) hE dX10_leaves_22 rfl rfl rfl ?_
      refine dk_iconst (pc' := 24) hE dX10_leaves_23 (by decide) rfl ?_
      refine dk_iload_n (pc' := 25) hE dX10_leaves_24 rfl rfl rfl ?_
      refine dk_iload_n (pc' := 26) hE dX10_leaves_25 rfl rfl rfl ?_
      refine dk_cV (pc' := 29) (as := [(0, 3), (0, b), (0, 0), (0, d), (0, d)]) hE lk_X10_199 (ct_X1_tell l G hGd 3 b 0 d d) dX10_leaves_26 rfl is_37 rfl (by decide) (Nat.le_of_ble_eq_true rfl) ⟨rfl, (by omega), (by omega), (by omega), (by omega), (by omega)⟩ rfl (fun r10 σ9 hr10 hor10 => ?_)
      obtain ⟨v11, rfl, hfσ9, hpr10⟩ := hr10
      have hkv11 := dk_oki (hor10 _ rfl)
      exact dk_iret (st := []) hE hR dX10_leaves_29 ⟨_, rfl, (fun k_ j_ h_ => by rw [hfσ9 k_ j_ (fun w_ => h_ (w_.elim (fun x0_ => Or.inl (x0_)) (fun y0_ => Or.inr (y0_))))]), trivial⟩
    · skip
      refine dk_if_ne (tgt := 17) (pc' := 15) hE dX10_leaves_12 (by decide) rfl (fun hc12 => absurd hc12 (by decide)) (fun hc12 => ?_)
      refine dk_iconst (pc' := 16) hE dX10_leaves_15 (by decide) rfl ?_
      exact dk_iret (st := []) hE hR dX10_leaves_16 ⟨_, rfl, (fun k_ j_ h_ => rfl), trivial⟩
  · skip
    refine dk_if_eq (tgt := 15) (pc' := 8) hE dX10_leaves_5 (by decide) rfl (fun hc13 => ?_) (fun hc13 => absurd hc13 (by decide))
    refine dk_iconst (pc' := 16) hE dX10_leaves_15 (by decide) rfl ?_
    exact dk_iret (st := []) hE hR dX10_leaves_16 ⟨_, rfl, (fun k_ j_ h_ => rfl), trivial⟩
set_option maxHeartbeats 4000000 in
set_option maxRecDepth 20000 in
theorem ct_X10_film (l : Launch) (G : dkG) (hGd : dk_Gd G) (p c b s : Int) : dk_Ct l G dk_Ty yX10_film cX10_film 4 (some .int) 3 190 190 (fun av σ => av = [(4, 0), (0, p), (0, c), (0, b)] ∧ (GI σ) ∧ (dk_sc s) ∧ (s = σ 0 9)) (fun _ σ r_ σ' => ∃ z : Int, r_ = some (0, z) ∧ (∀ k_ j_ : Int, ¬ ((k_ = 37 ∧ j_ = 7) ∨ (38 ≤ k_ ∧ k_ ≤ 44)) → σ' k_ j_ = σ k_ j_) ∧ (True)) := by
  refine dk_enter hGd (by decide) (fun av σ hpre hok => ?_)
  obtain ⟨rfl, hG, hs, h09⟩ := hpre
  refine ⟨Nat.le_of_ble_eq_true rfl, fun E hE hR _ => ?_⟩
  have hi_p : dk_i32 p := dk_oki (hok _ (by simp))
  have hi_c : dk_i32 c := dk_oki (hok _ (by simp))
  have hi_b : dk_i32 b := dk_oki (hok _ (by simp))
  show dk_PJ E 0 [(4, 0), (0, p), (0, c), (0, b)] [] 190 σ
  refine dk_aload_n (pc' := 1) hE dX10_film_0 rfl rfl rfl ?_
  refine gf_10_9 (pc' := 4) hE fl_X10_82 dX10_film_1 is_0 rfl (fun v1 hv1 htv1 hbv1 => ?_)
  have hq1 : s = v1 := (show v1 = s by rw [hv1, h09]).symm
  subst hq1
  clear htv1 hbv1
  refine dk_iload_n (pc' := 5) hE dX10_film_4 rfl rfl rfl ?_
  refine dk_cV (pc' := 8) (as := [(0, p)]) hE lk_X10_193 (ct_X4_isNote l G hGd s p) dX10_film_5 rfl (sc_is (by omega)) rfl (by decide) (Nat.le_of_ble_eq_true rfl) ⟨rfl, (by omega)⟩ rfl (fun r3 σ2 hr3 hor3 => ?_)
  obtain ⟨v4, rfl, hfσ2, hpr3⟩ := hr3
  have hsσ2 : σ = σ2 := (funext (fun k => funext (fun j => hfσ2 k j not_false))).symm
  subst hsσ2
  rcases hpr3 with ⟨rfl, hpr3⟩ | rfl
  · skip
    refine dk_if_eq (tgt := 36) (pc' := 11) hE dX10_film_8 (by decide) rfl (fun hc5 => absurd hc5 (by decide)) (fun hc5 => ?_)
    refine dk_iload_n (pc' := 12) hE dX10_film_11 rfl rfl rfl ?_
    refine dk_iconst (pc' := 13) hE dX10_film_12 (by decide) rfl ?_
    refine dk_icmp_lt (tgt := 36) (pc' := 16) hE dX10_film_13 (by decide) rfl (fun hc6 => ?_) (fun hc6 => ?_)
    · skip
      refine dk_iconst (pc' := 37) hE dX10_film_36 (by decide) rfl ?_
      exact dk_iret (st := []) hE hR dX10_film_37 ⟨_, rfl, (fun k_ j_ h_ => rfl), trivial⟩
    · skip
      refine dk_iload_n (pc' := 17) hE dX10_film_16 rfl rfl rfl ?_
      refine dk_aload_n (pc' := 18) hE dX10_film_17 rfl rfl rfl ?_
      refine gf_10_9 (pc' := 21) hE fl_X10_82 dX10_film_18 is_0 rfl (fun v7 hv7 htv7 hbv7 => ?_)
      have hq7 : s = v7 := (show v7 = s by rw [hv7, hv1]).symm
      subst hq7
      clear htv7 hbv7
      refine gf_4_5 (pc' := 24) (w := (s + 17)) hE fl_X10_147 dX10_film_21 (sc_is (by omega)) rfl rfl ?_
      refine dk_iload_n (pc' := 25) hE dX10_film_24 rfl rfl rfl ?_
      refine ga_64 (pc' := 26) hE dX10_film_25 (sc_17 hs) (by omega) rfl (fun v8 hv8 htv8 hbv8 => ?_)
      refine dk_icmp_gt (tgt := 36) (pc' := 29) hE dX10_film_26 (by decide) rfl (fun hc9 => ?_) (fun hc9 => ?_)
      · skip
        refine dk_iconst (pc' := 37) hE dX10_film_36 (by decide) rfl ?_
        exact dk_iret (st := []) hE hR dX10_film_37 ⟨_, rfl, (fun k_ j_ h_ => rfl), trivial⟩
      · skip
        refine dk_iload_n (pc' := 30) hE dX10_film_29 rfl rfl rfl ?_
        refine dk_cS (pc' := 33) (as := [(0, b)]) hE lk_X10_163 (ct_X10_isStep l G hGd b) dX10_film_30 rfl rfl (by decide) (Nat.le_of_ble_eq_true rfl) rfl rfl (fun r11 σ10 hr11 hor11 => ?_)
        obtain ⟨v12, rfl, hfσ10, hpr11⟩ := hr11
        have hsσ10 : σ = σ10 := (funext (fun k => funext (fun j => hfσ10 k j not_false))).symm
        subst hsσ10
        rcases hpr11 with ⟨rfl, hpr11⟩ | ⟨rfl, hpr11⟩
        · skip
          refine dk_if_ne (tgt := 38) (pc' := 36) hE dX10_film_33 (by decide) rfl (fun hc13 => ?_) (fun hc13 => absurd hc13 (by decide))
          refine dk_aload_n (pc' := 39) hE dX10_film_38 rfl rfl rfl ?_
          refine gf_10_5 (pc' := 42) (w := 37) hE fl_X10_54 dX10_film_39 is_0 rfl rfl ?_
          refine dk_iconst (pc' := 43) hE dX10_film_42 (by decide) rfl ?_
          refine dk_iconst (pc' := 44) hE dX10_film_43 (by decide) rfl ?_
          refine dk_iload_n (pc' := 45) hE dX10_film_44 rfl rfl rfl ?_
          refine dk_iload_n (pc' := 46) hE dX10_film_45 rfl rfl rfl ?_
          refine dk_iload_n (pc' := 47) hE dX10_film_46 rfl rfl rfl ?_
          refine dk_cV (pc' := 50) (as := [(0, 4), (0, 0), (0, p), (0, c), (0, b)]) hE lk_X10_199 (ct_X1_tell l G hGd 4 0 p c b) dX10_film_47 rfl is_37 rfl (by decide) (Nat.le_of_ble_eq_true rfl) ⟨rfl, (by omega), (by omega), (by omega), (by omega), (by omega)⟩ rfl (fun r15 σ14 hr15 hor15 => ?_)
          obtain ⟨v16, rfl, hfσ14, hpr15⟩ := hr15
          have hkv16 := dk_oki (hor15 _ rfl)
          exact dk_iret (st := []) hE hR dX10_film_50 ⟨_, rfl, (fun k_ j_ h_ => by rw [hfσ14 k_ j_ (fun w_ => h_ (w_.elim (fun x0_ => Or.inl (x0_)) (fun y0_ => Or.inr (y0_))))]), trivial⟩
        · skip
          refine dk_if_ne (tgt := 38) (pc' := 36) hE dX10_film_33 (by decide) rfl (fun hc17 => absurd hc17 (by decide)) (fun hc17 => ?_)
          refine dk_iconst (pc' := 37) hE dX10_film_36 (by decide) rfl ?_
          exact dk_iret (st := []) hE hR dX10_film_37 ⟨_, rfl, (fun k_ j_ h_ => rfl), trivial⟩
  · skip
    refine dk_if_eq (tgt := 36) (pc' := 11) hE dX10_film_8 (by decide) rfl (fun hc18 => ?_) (fun hc18 => absurd hc18 (by decide))
    refine dk_iconst (pc' := 37) hE dX10_film_36 (by decide) rfl ?_
    exact dk_iret (st := []) hE hR dX10_film_37 ⟨_, rfl, (fun k_ j_ h_ => rfl), trivial⟩
set_option maxHeartbeats 4000000 in
set_option maxRecDepth 20000 in
theorem ct_X10_untell (l : Launch) (G : dkG) (hGd : dk_Gd G) (f s : Int) : dk_Ct l G dk_Ty yX10_untell cX10_untell 2 (some .boolean) 2 190 190 (fun av σ => av = [(4, 0), (0, f)] ∧ (GI σ) ∧ (dk_sc s) ∧ (s = σ 0 9)) (fun _ σ r_ σ' => ∃ z : Int, r_ = some (0, z) ∧ (∀ k_ j_ : Int, ¬ (k_ = 44) → σ' k_ j_ = σ k_ j_) ∧ (True)) := by
  refine dk_enter hGd (by decide) (fun av σ hpre hok => ?_)
  obtain ⟨rfl, hG, hs, h09⟩ := hpre
  refine ⟨Nat.le_of_ble_eq_true rfl, fun E hE hR _ => ?_⟩
  have hi_f : dk_i32 f := dk_oki (hok _ (by simp))
  show dk_PJ E 0 [(4, 0), (0, f)] [] 190 σ
  refine dk_aload_n (pc' := 1) hE dX10_untell_0 rfl rfl rfl ?_
  refine gf_10_5 (pc' := 4) (w := 37) hE fl_X10_54 dX10_untell_1 is_0 rfl rfl ?_
  refine dk_iload_n (pc' := 5) hE dX10_untell_4 rfl rfl rfl ?_
  refine dk_cV (pc' := 8) (as := [(0, f)]) hE lk_X10_203 (ct_X1_takeBack l G hGd f) dX10_untell_5 rfl is_37 rfl (by decide) (Nat.le_of_ble_eq_true rfl) rfl rfl (fun r2 σ1 hr2 hor2 => ?_)
  obtain ⟨v3, rfl, hfσ1, hpr2⟩ := hr2
  exact dk_zret (st := []) hE hR dX10_untell_8 (by omega) ⟨_, rfl, (fun k_ j_ h_ => by rw [hfσ1 k_ j_ (fun w_ => h_ (w_))]), trivial⟩
set_option maxHeartbeats 4000000 in
set_option maxRecDepth 20000 in
theorem ct_X10_borne (l : Launch) (G : dkG) (hGd : dk_Gd G) (p r k s : Int) : dk_Ct l G dk_Ty yX10_borne cX10_borne 6 (some .int) 3 190 190 (fun av σ => av = [(4, 0), (0, p), (0, r), (0, k)] ∧ (GI σ) ∧ (dk_sc s) ∧ (s = σ 0 9)) (fun _ σ r_ σ' => ∃ z : Int, r_ = some (0, z) ∧ (∀ k_ j_ : Int, ¬ (False) → σ' k_ j_ = σ k_ j_) ∧ (True)) := by
  refine dk_enter hGd (by decide) (fun av σ hpre hok => ?_)
  obtain ⟨rfl, hG, hs, h09⟩ := hpre
  refine ⟨Nat.le_of_ble_eq_true rfl, fun E hE hR _ => ?_⟩
  have hi_p : dk_i32 p := dk_oki (hok _ (by simp))
  have hi_r : dk_i32 r := dk_oki (hok _ (by simp))
  have hi_k : dk_i32 k := dk_oki (hok _ (by simp))
  show dk_PJ E 0 [(4, 0), (0, p), (0, r), (0, k), (9, 0), (9, 0)] [] 190 σ
  refine dk_aload_n (pc' := 1) hE dX10_borne_0 rfl rfl rfl ?_
  refine gf_10_9 (pc' := 4) hE fl_X10_82 dX10_borne_1 is_0 rfl (fun v1 hv1 htv1 hbv1 => ?_)
  have hq1 : s = v1 := (show v1 = s by rw [hv1, h09]).symm
  subst hq1
  clear htv1 hbv1
  refine dk_iload_n (pc' := 5) hE dX10_borne_4 rfl rfl rfl ?_
  refine dk_cV (pc' := 8) (as := [(0, p)]) hE lk_X10_193 (ct_X4_isNote l G hGd s p) dX10_borne_5 rfl (sc_is (by omega)) rfl (by decide) (Nat.le_of_ble_eq_true rfl) ⟨rfl, (by omega)⟩ rfl (fun r3 σ2 hr3 hor3 => ?_)
  obtain ⟨v4, rfl, hfσ2, hpr3⟩ := hr3
  have hsσ2 : σ = σ2 := (funext (fun k => funext (fun j => hfσ2 k j not_false))).symm
  subst hsσ2
  rcases hpr3 with ⟨rfl, hpr3⟩ | rfl
  · skip
    refine dk_if_eq (tgt := 18) (pc' := 11) hE dX10_borne_8 (by decide) rfl (fun hc5 => absurd hc5 (by decide)) (fun hc5 => ?_)
    refine dk_iload_n (pc' := 12) hE dX10_borne_11 rfl rfl rfl ?_
    refine dk_cS (pc' := 15) (as := [(0, r)]) hE lk_X10_160 (ct_X10_isReader l G hGd r) dX10_borne_12 rfl rfl (by decide) (Nat.le_of_ble_eq_true rfl) rfl rfl (fun r7 σ6 hr7 hor7 => ?_)
    obtain ⟨v8, rfl, hfσ6, hpr7⟩ := hr7
    have hsσ6 : σ = σ6 := (funext (fun k => funext (fun j => hfσ6 k j not_false))).symm
    subst hsσ6
    rcases hpr7 with ⟨rfl, hpr7⟩ | ⟨rfl, hpr7⟩
    · skip
      refine dk_if_ne (tgt := 20) (pc' := 18) hE dX10_borne_15 (by decide) rfl (fun hc9 => ?_) (fun hc9 => absurd hc9 (by decide))
      refine dk_iconst (pc' := 21) hE dX10_borne_20 (by decide) rfl ?_
      refine dk_istore (pc' := 23) (ls' := [(4, 0), (0, p), (0, r), (0, k), (0, 0), (9, 0)]) hE dX10_borne_21 rfl (by decide) rfl ?_
      refine dk_iconst (pc' := 24) hE dX10_borne_23 (by decide) rfl ?_
      refine dk_istore (pc' := 26) (ls' := [(4, 0), (0, p), (0, r), (0, k), (0, 0), (0, 0)]) hE dX10_borne_24 rfl (by decide) rfl ?_
      have lp26 : ∀ (N_ : Nat) (m i : Int) (σ26c : dkS), (2147483648 - i).toNat < N_ → ((∀ k_ j_ : Int, ¬ (False) → σ26c k_ j_ = σ k_ j_)) → (0 ≤ i) → (0 ≤ m ∧ m ≤ i) → dk_PJ E 26 [(4, 0), (0, p), (0, r), (0, k), (0, m), (0, i)] [] 190 σ26c := by
        intro N26
        induction N26 with
        | zero => intro m i σ26c hm; exact absurd hm (Nat.not_lt_zero _)
        | succ N26 ih26 =>
          intro m i σ26c hm26 hF26 hi0 hm
          refine dk_iload (pc' := 28) hE dX10_borne_26 rfl rfl ?_
          refine dk_aload_n (pc' := 29) hE dX10_borne_28 rfl rfl rfl ?_
          refine gf_10_5 (pc' := 32) (w := 37) hE fl_X10_54 dX10_borne_29 is_0 rfl rfl ?_
          refine gf_1_7 (pc' := 35) hE fl_X10_119 dX10_borne_32 is_37 rfl (fun v10 hv10 htv10 hbv10 => ?_)
          refine dk_icmp_ge (tgt := 120) (pc' := 38) hE dX10_borne_35 (by decide) rfl (fun hc11 => ?_) (fun hc11 => ?_)
          · skip
            refine dk_iload (pc' := 122) hE dX10_borne_120 rfl rfl ?_
            exact dk_iret (st := []) hE hR dX10_borne_122 ⟨_, rfl, (fun k_ j_ h_ => by rw [hF26 k_ j_ not_false]), trivial⟩
          · skip
            refine dk_aload_n (pc' := 39) hE dX10_borne_38 rfl rfl rfl ?_
            refine gf_10_5 (pc' := 42) (w := 37) hE fl_X10_54 dX10_borne_39 is_0 rfl rfl ?_
            refine gf_1_0 (pc' := 45) (w := 38) hE fl_X10_210 dX10_borne_42 is_37 rfl rfl ?_
            refine dk_iload (pc' := 47) hE dX10_borne_45 rfl rfl ?_
            refine ga_30 (pc' := 48) hE dX10_borne_47 is_38 (by omega) rfl (fun v12 hv12 htv12 hbv12 => ?_)
            refine dk_iconst (pc' := 49) hE dX10_borne_48 (by decide) rfl ?_
            refine dk_icmp_ne (tgt := 114) (pc' := 52) hE dX10_borne_49 (by decide) rfl (fun hc13 => ?_) (fun hc13 => ?_)
            · skip
              obtain ⟨v14, hv14⟩ : ∃ z : Int, z = i + 1 := ⟨_, rfl⟩
              refine dk_iinc (pc' := 117) (ls' := [(4, 0), (0, p), (0, r), (0, k), (0, m), (0, v14)]) hE dX10_borne_114 rfl hv14.symm (by omega) rfl (by decide) rfl ?_
              refine dk_goto (tgt := 26) hE dX10_borne_117 (by decide) ?_
              exact ih26 m v14 σ26c (by omega) (fun k_ j_ h_ => by rw [hF26 k_ j_ not_false]) (by omega) (by omega)
            · skip
              refine dk_aload_n (pc' := 53) hE dX10_borne_52 rfl rfl rfl ?_
              refine gf_10_5 (pc' := 56) (w := 37) hE fl_X10_54 dX10_borne_53 is_0 rfl rfl ?_
              refine gf_1_2 (pc' := 59) (w := 40) hE fl_X10_213 dX10_borne_56 is_37 rfl rfl ?_
              refine dk_iload (pc' := 61) hE dX10_borne_59 rfl rfl ?_
              refine ga_32 (pc' := 62) hE dX10_borne_61 is_40 (by omega) rfl (fun v15 hv15 htv15 hbv15 => ?_)
              refine dk_iload_n (pc' := 63) hE dX10_borne_62 rfl rfl rfl ?_
              refine dk_icmp_ne (tgt := 114) (pc' := 66) hE dX10_borne_63 (by decide) rfl (fun hc16 => ?_) (fun hc16 => ?_)
              · skip
                obtain ⟨v17, hv17⟩ : ∃ z : Int, z = i + 1 := ⟨_, rfl⟩
                refine dk_iinc (pc' := 117) (ls' := [(4, 0), (0, p), (0, r), (0, k), (0, m), (0, v17)]) hE dX10_borne_114 rfl hv17.symm (by omega) rfl (by decide) rfl ?_
                refine dk_goto (tgt := 26) hE dX10_borne_117 (by decide) ?_
                exact ih26 m v17 σ26c (by omega) (fun k_ j_ h_ => by rw [hF26 k_ j_ not_false]) (by omega) (by omega)
              · skip
                refine dk_aload_n (pc' := 67) hE dX10_borne_66 rfl rfl rfl ?_
                refine gf_10_5 (pc' := 70) (w := 37) hE fl_X10_54 dX10_borne_67 is_0 rfl rfl ?_
                refine dk_iload (pc' := 72) hE dX10_borne_70 rfl rfl ?_
                refine dk_iload_n (pc' := 73) hE dX10_borne_72 rfl rfl rfl ?_
                refine dk_cV (pc' := 76) (as := [(0, i), (0, k)]) hE lk_X10_216 (ct_X1_counts l G hGd i k) dX10_borne_73 rfl is_37 rfl (by decide) (Nat.le_of_ble_eq_true rfl) ⟨rfl, (by omega)⟩ rfl (fun r19 σ18 hr19 hor19 => ?_)
                obtain ⟨v20, rfl, hfσ18, hpr19⟩ := hr19
                have hsσ18 : σ26c = σ18 := (funext (fun k => funext (fun j => hfσ18 k j not_false))).symm
                subst hsσ18
                refine dk_if_eq (tgt := 114) (pc' := 79) hE dX10_borne_76 (by decide) rfl (fun hc21 => ?_) (fun hc21 => ?_)
                · skip
                  obtain ⟨v22, hv22⟩ : ∃ z : Int, z = i + 1 := ⟨_, rfl⟩
                  refine dk_iinc (pc' := 117) (ls' := [(4, 0), (0, p), (0, r), (0, k), (0, m), (0, v22)]) hE dX10_borne_114 rfl hv22.symm (by omega) rfl (by decide) rfl ?_
                  refine dk_goto (tgt := 26) hE dX10_borne_117 (by decide) ?_
                  exact ih26 m v22 σ26c (by omega) (fun k_ j_ h_ => by rw [hF26 k_ j_ not_false]) (by omega) (by omega)
                · skip
                  refine dk_aload_n (pc' := 80) hE dX10_borne_79 rfl rfl rfl ?_
                  refine gf_10_9 (pc' := 83) hE fl_X10_82 dX10_borne_80 is_0 rfl (fun v23 hv23 htv23 hbv23 => ?_)
                  have hq23 : s = v23 := (show v23 = s by rw [hv23, hF26 0 9 not_false, hv1]).symm
                  subst hq23
                  clear htv23 hbv23
                  refine dk_iload_n (pc' := 84) hE dX10_borne_83 rfl rfl rfl ?_
                  refine dk_aload_n (pc' := 85) hE dX10_borne_84 rfl rfl rfl ?_
                  refine gf_10_5 (pc' := 88) (w := 37) hE fl_X10_54 dX10_borne_85 is_0 rfl rfl ?_
                  refine gf_1_3 (pc' := 91) (w := 41) hE fl_X10_219 dX10_borne_88 is_37 rfl rfl ?_
                  refine dk_iload (pc' := 93) hE dX10_borne_91 rfl rfl ?_
                  refine ga_33 (pc' := 94) hE dX10_borne_93 is_41 (by omega) rfl (fun v24 hv24 htv24 hbv24 => ?_)
                  refine dk_iload_n (pc' := 95) hE dX10_borne_94 rfl rfl rfl ?_
                  have gi25 : GI σ26c := GI_fr hG (fun k_ j_ h_ => by rw [hF26 k_ j_ not_false])
                  refine dk_cV (pc' := 98) (as := [(0, p), (0, v24), (0, r)]) hE lk_X10_166 (ct_X4_stepAt l G hGd s p v24 r) dX10_borne_95 rfl (sc_is (by omega)) rfl (by decide) (Nat.le_of_ble_eq_true rfl) ⟨rfl, (by omega), gi25, (by omega), (by omega)⟩ rfl (fun r27 σ26 hr27 hor27 => ?_)
                  obtain ⟨v28, rfl, hfσ26, hpr27⟩ := hr27
                  have hsσ26 : σ26c = σ26 := (funext (fun k => funext (fun j => hfσ26 k j not_false))).symm
                  subst hsσ26
                  refine dk_aload_n (pc' := 99) hE dX10_borne_98 rfl rfl rfl ?_
                  refine gf_10_5 (pc' := 102) (w := 37) hE fl_X10_54 dX10_borne_99 is_0 rfl rfl ?_
                  refine gf_1_4 (pc' := 105) (w := 42) hE fl_X10_222 dX10_borne_102 is_37 rfl rfl ?_
                  refine dk_iload (pc' := 107) hE dX10_borne_105 rfl rfl ?_
                  refine ga_34 (pc' := 108) hE dX10_borne_107 is_42 (by omega) rfl (fun v29 hv29 htv29 hbv29 => ?_)
                  refine dk_icmp_ne (tgt := 114) (pc' := 111) hE dX10_borne_108 (by decide) rfl (fun hc30 => ?_) (fun hc30 => ?_)
                  · skip
                    obtain ⟨v31, hv31⟩ : ∃ z : Int, z = i + 1 := ⟨_, rfl⟩
                    refine dk_iinc (pc' := 117) (ls' := [(4, 0), (0, p), (0, r), (0, k), (0, m), (0, v31)]) hE dX10_borne_114 rfl hv31.symm (by omega) rfl (by decide) rfl ?_
                    refine dk_goto (tgt := 26) hE dX10_borne_117 (by decide) ?_
                    exact ih26 m v31 σ26c (by omega) (fun k_ j_ h_ => by rw [hF26 k_ j_ not_false]) (by omega) (by omega)
                  · skip
                    obtain ⟨v32, hv32⟩ : ∃ z : Int, z = m + 1 := ⟨_, rfl⟩
                    refine dk_iinc (pc' := 114) (ls' := [(4, 0), (0, p), (0, r), (0, k), (0, v32), (0, i)]) hE dX10_borne_111 rfl hv32.symm (by omega) rfl (by decide) rfl ?_
                    obtain ⟨v33, hv33⟩ : ∃ z : Int, z = i + 1 := ⟨_, rfl⟩
                    refine dk_iinc (pc' := 117) (ls' := [(4, 0), (0, p), (0, r), (0, k), (0, v32), (0, v33)]) hE dX10_borne_114 rfl hv33.symm (by omega) rfl (by decide) rfl ?_
                    refine dk_goto (tgt := 26) hE dX10_borne_117 (by decide) ?_
                    exact ih26 v32 v33 σ26c (by omega) (fun k_ j_ h_ => by rw [hF26 k_ j_ not_false]) (by omega) (by omega)
      exact lp26 _ 0 0 σ (Nat.lt_succ_self _) (fun k_ j_ h_ => rfl) (by omega) (by omega)
    · skip
      refine dk_if_ne (tgt := 20) (pc' := 18) hE dX10_borne_15 (by decide) rfl (fun hc34 => absurd hc34 (by decide)) (fun hc34 => ?_)
      refine dk_iconst (pc' := 19) hE dX10_borne_18 (by decide) rfl ?_
      exact dk_iret (st := []) hE hR dX10_borne_19 ⟨_, rfl, (fun k_ j_ h_ => rfl), trivial⟩
  · skip
    refine dk_if_eq (tgt := 18) (pc' := 11) hE dX10_borne_8 (by decide) rfl (fun hc35 => ?_) (fun hc35 => absurd hc35 (by decide))
    refine dk_iconst (pc' := 19) hE dX10_borne_18 (by decide) rfl ?_
    exact dk_iret (st := []) hE hR dX10_borne_19 ⟨_, rfl, (fun k_ j_ h_ => rfl), trivial⟩
set_option maxHeartbeats 4000000 in
set_option maxRecDepth 20000 in
theorem ct_X10_asked (l : Launch) (G : dkG) (hGd : dk_Gd G) (b p d w k s : Int) : dk_Ct l G dk_Ty yX10_asked cX10_asked 6 (some .int) 5 190 190 (fun av σ => av = [(4, 0), (0, b), (0, p), (0, d), (0, w), (0, k)] ∧ (GI σ) ∧ (dk_sc s) ∧ (s = σ 0 9)) (fun _ σ r_ σ' => ∃ z : Int, r_ = some (0, z) ∧ (∀ k_ j_ : Int, ¬ ((k_ = 45 ∧ j_ = 9) ∨ (k_ = 45 ∧ j_ = 10) ∨ (k_ = 45 ∧ j_ = 11) ∨ (k_ = 45 ∧ j_ = 12) ∨ (46 ≤ k_ ∧ k_ ≤ 74)) → σ' k_ j_ = σ k_ j_) ∧ (True)) := by
  refine dk_enter hGd (by decide) (fun av σ hpre hok => ?_)
  obtain ⟨rfl, hG, hs, h09⟩ := hpre
  refine ⟨Nat.le_of_ble_eq_true rfl, fun E hE hR _ => ?_⟩
  have hi_b : dk_i32 b := dk_oki (hok _ (by simp))
  have hi_p : dk_i32 p := dk_oki (hok _ (by simp))
  have hi_d : dk_i32 d := dk_oki (hok _ (by simp))
  have hi_w : dk_i32 w := dk_oki (hok _ (by simp))
  have hi_k : dk_i32 k := dk_oki (hok _ (by simp))
  show dk_PJ E 0 [(4, 0), (0, b), (0, p), (0, d), (0, w), (0, k)] [] 190 σ
  refine dk_aload_n (pc' := 1) hE dX10_asked_0 rfl rfl rfl ?_
  refine dk_iload_n (pc' := 2) hE dX10_asked_1 rfl rfl rfl ?_
  refine dk_cV (pc' := 5) (as := [(0, b)]) hE lk_X10_196 (ct_X10_isBody l G hGd b) dX10_asked_2 rfl is_0 rfl (by decide) (Nat.le_of_ble_eq_true rfl) rfl rfl (fun r2 σ1 hr2 hor2 => ?_)
  obtain ⟨v3, rfl, hfσ1, hpr2⟩ := hr2
  have hsσ1 : σ = σ1 := (funext (fun k => funext (fun j => hfσ1 k j not_false))).symm
  subst hsσ1
  rcases hpr2 with ⟨rfl, hpr2⟩ | rfl
  · skip
    refine dk_if_eq (tgt := 26) (pc' := 8) hE dX10_asked_5 (by decide) rfl (fun hc4 => absurd hc4 (by decide)) (fun hc4 => ?_)
    refine dk_aload_n (pc' := 9) hE dX10_asked_8 rfl rfl rfl ?_
    refine gf_10_9 (pc' := 12) hE fl_X10_82 dX10_asked_9 is_0 rfl (fun v5 hv5 htv5 hbv5 => ?_)
    have hq5 : s = v5 := (show v5 = s by rw [hv5, h09]).symm
    subst hq5
    clear htv5 hbv5
    refine dk_iload_n (pc' := 13) hE dX10_asked_12 rfl rfl rfl ?_
    refine dk_cV (pc' := 16) (as := [(0, p)]) hE lk_X10_140 (ct_X4_isPart l G hGd s p) dX10_asked_13 rfl (sc_is (by omega)) rfl (by decide) (Nat.le_of_ble_eq_true rfl) ⟨rfl, (by omega)⟩ rfl (fun r7 σ6 hr7 hor7 => ?_)
    obtain ⟨v8, rfl, hfσ6, hpr7⟩ := hr7
    have hsσ6 : σ = σ6 := (funext (fun k => funext (fun j => hfσ6 k j not_false))).symm
    subst hsσ6
    rcases hpr7 with ⟨rfl, hpr7⟩ | rfl
    · skip
      refine dk_if_eq (tgt := 26) (pc' := 19) hE dX10_asked_16 (by decide) rfl (fun hc9 => absurd hc9 (by decide)) (fun hc9 => ?_)
      refine dk_iload_n (pc' := 20) hE dX10_asked_19 rfl rfl rfl ?_
      refine dk_cS (pc' := 23) (as := [(0, d)]) hE lk_X10_128 (ct_X10_isDay l G hGd d) dX10_asked_20 rfl rfl (by decide) (Nat.le_of_ble_eq_true rfl) rfl rfl (fun r11 σ10 hr11 hor11 => ?_)
      obtain ⟨v12, rfl, hfσ10, hpr11⟩ := hr11
      have hsσ10 : σ = σ10 := (funext (fun k => funext (fun j => hfσ10 k j not_false))).symm
      subst hsσ10
      rcases hpr11 with ⟨rfl, hpr11⟩ | ⟨rfl, hpr11⟩
      · skip
        refine dk_if_ne (tgt := 28) (pc' := 26) hE dX10_asked_23 (by decide) rfl (fun hc13 => ?_) (fun hc13 => absurd hc13 (by decide))
        refine dk_aload_n (pc' := 29) hE dX10_asked_28 rfl rfl rfl ?_
        refine dk_iload_n (pc' := 30) hE dX10_asked_29 rfl rfl rfl ?_
        refine dk_iload (pc' := 32) hE dX10_asked_30 rfl rfl ?_
        have hz14 : σ 0 9 = s := by rw [hv5]
        refine dk_cV (pc' := 35) (as := [(0, d), (0, k)]) hE lk_X10_225 (ct_X10_openDay l G hGd d k s) dX10_asked_32 rfl is_0 rfl (by decide) (Nat.le_of_ble_eq_true rfl) ⟨rfl, hG, (by omega), (by omega), (by omega)⟩ rfl (fun r16 σ15 hr16 hor16 => ?_)
        obtain ⟨rfl, hfσ15, hpr16⟩ := hr16
        refine dk_iload (pc' := 37) hE dX10_asked_35 rfl rfl ?_
        refine dk_table (tgs := [68, 78, 88, 98]) (td := 107) hE dX10_asked_37 (by decide) (by decide) (by decide) (fun hc17 => ?_) (fun i18 t19 q20 hc17 => ?_)
        · skip
          refine dk_iconst (pc' := 108) hE dX10_asked_107 (by decide) rfl ?_
          exact dk_iret (st := []) hE hR dX10_asked_108 ⟨_, rfl, (fun k_ j_ h_ => by rw [hfσ15 k_ j_ (fun w_ => h_ (w_.elim (fun x0_ => Or.inl (x0_)) (fun y0_ => y0_.elim (fun x1_ => Or.inr (Or.inl (x1_))) (fun y1_ => y1_.elim (fun x2_ => Or.inr (Or.inr (Or.inl (x2_)))) (fun y2_ => y2_.elim (fun x3_ => Or.inr (Or.inr (Or.inr (Or.inl (x3_))))) (fun y3_ => Or.inr (Or.inr (Or.inr (Or.inr (y3_))))))))))]), trivial⟩
        · have i18l : i18 < 4 := (List.getElem?_eq_some_iff.mp q20).1
          rcases (show i18 = 0 ∨ i18 = 1 ∨ i18 = 2 ∨ i18 = 3 by omega) with rfl | rfl | rfl | rfl
          · cases q20
            refine dk_aload_n (pc' := 69) hE dX10_asked_68 rfl rfl rfl ?_
            refine gf_10_6 (pc' := 72) (w := 45) hE fl_X10_61 dX10_asked_69 is_0 rfl rfl ?_
            refine dk_iload_n (pc' := 73) hE dX10_asked_72 rfl rfl rfl ?_
            refine dk_iload_n (pc' := 74) hE dX10_asked_73 rfl rfl rfl ?_
            refine dk_cV (pc' := 77) (as := [(0, b), (0, p)]) hE lk_X10_229 (ct_X6_daysKnown l G hGd b p) dX10_asked_74 rfl is_45 rfl (by decide) (Nat.le_of_ble_eq_true rfl) ⟨rfl, (by omega), (by omega)⟩ rfl (fun r22 σ21 hr22 hor22 => ?_)
            obtain ⟨v23, rfl, hfσ21, hpr22⟩ := hr22
            have hkv23 := dk_oki (hor22 _ rfl)
            have hsσ21 : σ15 = σ21 := (funext (fun k => funext (fun j => hfσ21 k j not_false))).symm
            subst hsσ21
            exact dk_iret (st := []) hE hR dX10_asked_77 ⟨_, rfl, (fun k_ j_ h_ => by rw [hfσ15 k_ j_ (fun w_ => h_ (w_.elim (fun x0_ => Or.inl (x0_)) (fun y0_ => y0_.elim (fun x1_ => Or.inr (Or.inl (x1_))) (fun y1_ => y1_.elim (fun x2_ => Or.inr (Or.inr (Or.inl (x2_)))) (fun y2_ => y2_.elim (fun x3_ => Or.inr (Or.inr (Or.inr (Or.inl (x3_))))) (fun y3_ => Or.inr (Or.inr (Or.inr (Or.inr (y3_))))))))))]), trivial⟩
          · cases q20
            refine dk_aload_n (pc' := 79) hE dX10_asked_78 rfl rfl rfl ?_
            refine gf_10_6 (pc' := 82) (w := 45) hE fl_X10_61 dX10_asked_79 is_0 rfl rfl ?_
            refine dk_iload_n (pc' := 83) hE dX10_asked_82 rfl rfl rfl ?_
            refine dk_iload_n (pc' := 84) hE dX10_asked_83 rfl rfl rfl ?_
            refine dk_cV (pc' := 87) (as := [(0, b), (0, p)]) hE lk_X10_232 (ct_X6_daysSinceDanced l G hGd b p) dX10_asked_84 rfl is_45 rfl (by decide) (Nat.le_of_ble_eq_true rfl) ⟨rfl, (by omega), (by omega)⟩ rfl (fun r25 σ24 hr25 hor25 => ?_)
            obtain ⟨v26, rfl, hfσ24, hpr25⟩ := hr25
            have hkv26 := dk_oki (hor25 _ rfl)
            have hsσ24 : σ15 = σ24 := (funext (fun k => funext (fun j => hfσ24 k j not_false))).symm
            subst hsσ24
            exact dk_iret (st := []) hE hR dX10_asked_87 ⟨_, rfl, (fun k_ j_ h_ => by rw [hfσ15 k_ j_ (fun w_ => h_ (w_.elim (fun x0_ => Or.inl (x0_)) (fun y0_ => y0_.elim (fun x1_ => Or.inr (Or.inl (x1_))) (fun y1_ => y1_.elim (fun x2_ => Or.inr (Or.inr (Or.inl (x2_)))) (fun y2_ => y2_.elim (fun x3_ => Or.inr (Or.inr (Or.inr (Or.inl (x3_))))) (fun y3_ => Or.inr (Or.inr (Or.inr (Or.inr (y3_))))))))))]), trivial⟩
          · cases q20
            refine dk_aload_n (pc' := 89) hE dX10_asked_88 rfl rfl rfl ?_
            refine gf_10_6 (pc' := 92) (w := 45) hE fl_X10_61 dX10_asked_89 is_0 rfl rfl ?_
            refine gf_6_8 (pc' := 95) (w := 74) hE fl_X10_235 dX10_asked_92 is_45 rfl rfl ?_
            refine dk_iload_n (pc' := 96) hE dX10_asked_95 rfl rfl rfl ?_
            refine ga_47 (pc' := 97) hE dX10_asked_96 is_74 (by omega) rfl (fun v27 hv27 htv27 hbv27 => ?_)
            exact dk_iret (st := []) hE hR dX10_asked_97 ⟨_, rfl, (fun k_ j_ h_ => by rw [hfσ15 k_ j_ (fun w_ => h_ (w_.elim (fun x0_ => Or.inl (x0_)) (fun y0_ => y0_.elim (fun x1_ => Or.inr (Or.inl (x1_))) (fun y1_ => y1_.elim (fun x2_ => Or.inr (Or.inr (Or.inl (x2_)))) (fun y2_ => y2_.elim (fun x3_ => Or.inr (Or.inr (Or.inr (Or.inl (x3_))))) (fun y3_ => Or.inr (Or.inr (Or.inr (Or.inr (y3_))))))))))]), trivial⟩
          · cases q20
            refine dk_aload_n (pc' := 99) hE dX10_asked_98 rfl rfl rfl ?_
            refine gf_10_6 (pc' := 102) (w := 45) hE fl_X10_61 dX10_asked_99 is_0 rfl rfl ?_
            refine dk_iload_n (pc' := 103) hE dX10_asked_102 rfl rfl rfl ?_
            refine dk_cV (pc' := 106) (as := [(0, b)]) hE lk_X10_238 (ct_X6_daysIdle l G hGd b) dX10_asked_103 rfl is_45 rfl (by decide) (Nat.le_of_ble_eq_true rfl) ⟨rfl, (by omega)⟩ rfl (fun r29 σ28 hr29 hor29 => ?_)
            obtain ⟨v30, rfl, hfσ28, hpr29⟩ := hr29
            have hkv30 := dk_oki (hor29 _ rfl)
            have hsσ28 : σ15 = σ28 := (funext (fun k => funext (fun j => hfσ28 k j not_false))).symm
            subst hsσ28
            exact dk_iret (st := []) hE hR dX10_asked_106 ⟨_, rfl, (fun k_ j_ h_ => by rw [hfσ15 k_ j_ (fun w_ => h_ (w_.elim (fun x0_ => Or.inl (x0_)) (fun y0_ => y0_.elim (fun x1_ => Or.inr (Or.inl (x1_))) (fun y1_ => y1_.elim (fun x2_ => Or.inr (Or.inr (Or.inl (x2_)))) (fun y2_ => y2_.elim (fun x3_ => Or.inr (Or.inr (Or.inr (Or.inl (x3_))))) (fun y3_ => Or.inr (Or.inr (Or.inr (Or.inr (y3_))))))))))]), trivial⟩
      · skip
        refine dk_if_ne (tgt := 28) (pc' := 26) hE dX10_asked_23 (by decide) rfl (fun hc31 => absurd hc31 (by decide)) (fun hc31 => ?_)
        refine dk_iconst (pc' := 27) hE dX10_asked_26 (by decide) rfl ?_
        exact dk_iret (st := []) hE hR dX10_asked_27 ⟨_, rfl, (fun k_ j_ h_ => rfl), trivial⟩
    · skip
      refine dk_if_eq (tgt := 26) (pc' := 19) hE dX10_asked_16 (by decide) rfl (fun hc32 => ?_) (fun hc32 => absurd hc32 (by decide))
      refine dk_iconst (pc' := 27) hE dX10_asked_26 (by decide) rfl ?_
      exact dk_iret (st := []) hE hR dX10_asked_27 ⟨_, rfl, (fun k_ j_ h_ => rfl), trivial⟩
  · skip
    refine dk_if_eq (tgt := 26) (pc' := 8) hE dX10_asked_5 (by decide) rfl (fun hc33 => ?_) (fun hc33 => absurd hc33 (by decide))
    refine dk_iconst (pc' := 27) hE dX10_asked_26 (by decide) rfl ?_
    exact dk_iret (st := []) hE hR dX10_asked_27 ⟨_, rfl, (fun k_ j_ h_ => rfl), trivial⟩
set_option maxHeartbeats 4000000 in
set_option maxRecDepth 20000 in
theorem ct_X10_can (l : Launch) (G : dkG) (hGd : dk_Gd G) (b p d k s : Int) : dk_Ct l G dk_Ty yX10_can cX10_can 5 (some .int) 5 190 190 (fun av σ => av = [(4, 0), (0, b), (0, p), (0, d), (0, k)] ∧ (GI σ) ∧ (dk_sc s) ∧ (s = σ 0 9)) (fun _ σ r_ σ' => ∃ z : Int, r_ = some (0, z) ∧ (∀ k_ j_ : Int, ¬ ((k_ = 45 ∧ j_ = 9) ∨ (k_ = 45 ∧ j_ = 10) ∨ (k_ = 45 ∧ j_ = 11) ∨ (k_ = 45 ∧ j_ = 12) ∨ (46 ≤ k_ ∧ k_ ≤ 74)) → σ' k_ j_ = σ k_ j_) ∧ (True)) := by
  refine dk_enter hGd (by decide) (fun av σ hpre hok => ?_)
  obtain ⟨rfl, hG, hs, h09⟩ := hpre
  refine ⟨Nat.le_of_ble_eq_true rfl, fun E hE hR _ => ?_⟩
  have hi_b : dk_i32 b := dk_oki (hok _ (by simp))
  have hi_p : dk_i32 p := dk_oki (hok _ (by simp))
  have hi_d : dk_i32 d := dk_oki (hok _ (by simp))
  have hi_k : dk_i32 k := dk_oki (hok _ (by simp))
  show dk_PJ E 0 [(4, 0), (0, b), (0, p), (0, d), (0, k)] [] 190 σ
  refine dk_aload_n (pc' := 1) hE dX10_can_0 rfl rfl rfl ?_
  refine dk_iload_n (pc' := 2) hE dX10_can_1 rfl rfl rfl ?_
  refine dk_cV (pc' := 5) (as := [(0, b)]) hE lk_X10_196 (ct_X10_isBody l G hGd b) dX10_can_2 rfl is_0 rfl (by decide) (Nat.le_of_ble_eq_true rfl) rfl rfl (fun r2 σ1 hr2 hor2 => ?_)
  obtain ⟨v3, rfl, hfσ1, hpr2⟩ := hr2
  have hsσ1 : σ = σ1 := (funext (fun k => funext (fun j => hfσ1 k j not_false))).symm
  subst hsσ1
  rcases hpr2 with ⟨rfl, hpr2⟩ | rfl
  · skip
    refine dk_if_eq (tgt := 26) (pc' := 8) hE dX10_can_5 (by decide) rfl (fun hc4 => absurd hc4 (by decide)) (fun hc4 => ?_)
    refine dk_aload_n (pc' := 9) hE dX10_can_8 rfl rfl rfl ?_
    refine gf_10_9 (pc' := 12) hE fl_X10_82 dX10_can_9 is_0 rfl (fun v5 hv5 htv5 hbv5 => ?_)
    have hq5 : s = v5 := (show v5 = s by rw [hv5, h09]).symm
    subst hq5
    clear htv5 hbv5
    refine dk_iload_n (pc' := 13) hE dX10_can_12 rfl rfl rfl ?_
    refine dk_cV (pc' := 16) (as := [(0, p)]) hE lk_X10_140 (ct_X4_isPart l G hGd s p) dX10_can_13 rfl (sc_is (by omega)) rfl (by decide) (Nat.le_of_ble_eq_true rfl) ⟨rfl, (by omega)⟩ rfl (fun r7 σ6 hr7 hor7 => ?_)
    obtain ⟨v8, rfl, hfσ6, hpr7⟩ := hr7
    have hsσ6 : σ = σ6 := (funext (fun k => funext (fun j => hfσ6 k j not_false))).symm
    subst hsσ6
    rcases hpr7 with ⟨rfl, hpr7⟩ | rfl
    · skip
      refine dk_if_eq (tgt := 26) (pc' := 19) hE dX10_can_16 (by decide) rfl (fun hc9 => absurd hc9 (by decide)) (fun hc9 => ?_)
      refine dk_iload_n (pc' := 20) hE dX10_can_19 rfl rfl rfl ?_
      refine dk_cS (pc' := 23) (as := [(0, d)]) hE lk_X10_128 (ct_X10_isDay l G hGd d) dX10_can_20 rfl rfl (by decide) (Nat.le_of_ble_eq_true rfl) rfl rfl (fun r11 σ10 hr11 hor11 => ?_)
      obtain ⟨v12, rfl, hfσ10, hpr11⟩ := hr11
      have hsσ10 : σ = σ10 := (funext (fun k => funext (fun j => hfσ10 k j not_false))).symm
      subst hsσ10
      rcases hpr11 with ⟨rfl, hpr11⟩ | ⟨rfl, hpr11⟩
      · skip
        refine dk_if_ne (tgt := 28) (pc' := 26) hE dX10_can_23 (by decide) rfl (fun hc13 => ?_) (fun hc13 => absurd hc13 (by decide))
        refine dk_aload_n (pc' := 29) hE dX10_can_28 rfl rfl rfl ?_
        refine dk_iload_n (pc' := 30) hE dX10_can_29 rfl rfl rfl ?_
        refine dk_iload (pc' := 32) hE dX10_can_30 rfl rfl ?_
        have hz14 : σ 0 9 = s := by rw [hv5]
        refine dk_cV (pc' := 35) (as := [(0, d), (0, k)]) hE lk_X10_225 (ct_X10_openDay l G hGd d k s) dX10_can_32 rfl is_0 rfl (by decide) (Nat.le_of_ble_eq_true rfl) ⟨rfl, hG, (by omega), (by omega), (by omega)⟩ rfl (fun r16 σ15 hr16 hor16 => ?_)
        obtain ⟨rfl, hfσ15, hpr16⟩ := hr16
        refine dk_aload_n (pc' := 36) hE dX10_can_35 rfl rfl rfl ?_
        refine gf_10_6 (pc' := 39) (w := 45) hE fl_X10_61 dX10_can_36 is_0 rfl rfl ?_
        refine dk_iload_n (pc' := 40) hE dX10_can_39 rfl rfl rfl ?_
        refine dk_iload_n (pc' := 41) hE dX10_can_40 rfl rfl rfl ?_
        have hz17 : σ15 45 9 = s := by rw [(hpr16).symm]
        refine dk_cV (pc' := 44) (as := [(0, b), (0, p)]) hE lk_X10_242 (ct_X6_isFit l G hGd b p s) dX10_can_41 rfl is_45 rfl (by decide) (Nat.le_of_ble_eq_true rfl) ⟨rfl, (by omega), (by omega), (by omega), (by omega)⟩ rfl (fun r19 σ18 hr19 hor19 => ?_)
        obtain ⟨v20, rfl, hfσ18, hpr19⟩ := hr19
        refine dk_if_eq (tgt := 51) (pc' := 47) hE dX10_can_44 (by decide) rfl (fun hc21 => ?_) (fun hc21 => ?_)
        · skip
          refine dk_iconst (pc' := 52) hE dX10_can_51 (by decide) rfl ?_
          exact dk_iret (st := []) hE hR dX10_can_52 ⟨_, rfl, (fun k_ j_ h_ => by rw [hfσ18 k_ j_ (fun w_ => h_ (Or.inr (Or.inr (Or.inr (Or.inr (dk_wrr (lo := 46) (hi := 74) w_ (by decide) (by decide))))))), hfσ15 k_ j_ (fun w_ => h_ (w_.elim (fun x0_ => Or.inl (x0_)) (fun y0_ => y0_.elim (fun x1_ => Or.inr (Or.inl (x1_))) (fun y1_ => y1_.elim (fun x2_ => Or.inr (Or.inr (Or.inl (x2_)))) (fun y2_ => y2_.elim (fun x3_ => Or.inr (Or.inr (Or.inr (Or.inl (x3_))))) (fun y3_ => Or.inr (Or.inr (Or.inr (Or.inr (y3_))))))))))]), trivial⟩
        · skip
          refine dk_iconst (pc' := 48) hE dX10_can_47 (by decide) rfl ?_
          refine dk_goto (tgt := 52) hE dX10_can_48 (by decide) ?_
          exact dk_iret (st := []) hE hR dX10_can_52 ⟨_, rfl, (fun k_ j_ h_ => by rw [hfσ18 k_ j_ (fun w_ => h_ (Or.inr (Or.inr (Or.inr (Or.inr (dk_wrr (lo := 46) (hi := 74) w_ (by decide) (by decide))))))), hfσ15 k_ j_ (fun w_ => h_ (w_.elim (fun x0_ => Or.inl (x0_)) (fun y0_ => y0_.elim (fun x1_ => Or.inr (Or.inl (x1_))) (fun y1_ => y1_.elim (fun x2_ => Or.inr (Or.inr (Or.inl (x2_)))) (fun y2_ => y2_.elim (fun x3_ => Or.inr (Or.inr (Or.inr (Or.inl (x3_))))) (fun y3_ => Or.inr (Or.inr (Or.inr (Or.inr (y3_))))))))))]), trivial⟩
      · skip
        refine dk_if_ne (tgt := 28) (pc' := 26) hE dX10_can_23 (by decide) rfl (fun hc22 => absurd hc22 (by decide)) (fun hc22 => ?_)
        refine dk_iconst (pc' := 27) hE dX10_can_26 (by decide) rfl ?_
        exact dk_iret (st := []) hE hR dX10_can_27 ⟨_, rfl, (fun k_ j_ h_ => rfl), trivial⟩
    · skip
      refine dk_if_eq (tgt := 26) (pc' := 19) hE dX10_can_16 (by decide) rfl (fun hc23 => ?_) (fun hc23 => absurd hc23 (by decide))
      refine dk_iconst (pc' := 27) hE dX10_can_26 (by decide) rfl ?_
      exact dk_iret (st := []) hE hR dX10_can_27 ⟨_, rfl, (fun k_ j_ h_ => rfl), trivial⟩
  · skip
    refine dk_if_eq (tgt := 26) (pc' := 8) hE dX10_can_5 (by decide) rfl (fun hc24 => ?_) (fun hc24 => absurd hc24 (by decide))
    refine dk_iconst (pc' := 27) hE dX10_can_26 (by decide) rfl ?_
    exact dk_iret (st := []) hE hR dX10_can_27 ⟨_, rfl, (fun k_ j_ h_ => rfl), trivial⟩
set_option maxHeartbeats 4000000 in
set_option maxRecDepth 20000 in
theorem ct_X10_cost (l : Launch) (G : dkG) (hGd : dk_Gd G) (w d k s : Int) : dk_Ct l G dk_Ty yX10_cost cX10_cost 4 (some .long) 7 190 190 (fun av σ => av = [(4, 0), (0, w), (0, d), (0, k)] ∧ (GI σ) ∧ (dk_sc s) ∧ (s = σ 0 9)) (fun _ σ r_ σ' => ∃ z : Int, r_ = some (3, z) ∧ (∀ k_ j_ : Int, ¬ ((k_ = 45 ∧ j_ = 9) ∨ (k_ = 45 ∧ j_ = 10) ∨ (k_ = 45 ∧ j_ = 11) ∨ (k_ = 45 ∧ j_ = 12) ∨ (46 ≤ k_ ∧ k_ ≤ 74) ∨ (k_ = 75 ∧ j_ = 4) ∨ (k_ = 75 ∧ j_ = 5) ∨ (k_ = 75 ∧ j_ = 6) ∨ (k_ = 75 ∧ j_ = 7) ∨ (77 ≤ k_ ∧ k_ ≤ 87)) → σ' k_ j_ = σ k_ j_) ∧ (True)) := by
  refine dk_enter hGd (by decide) (fun av σ hpre hok => ?_)
  obtain ⟨rfl, hG, hs, h09⟩ := hpre
  refine ⟨Nat.le_of_ble_eq_true rfl, fun E hE hR _ => ?_⟩
  have hi_w : dk_i32 w := dk_oki (hok _ (by simp))
  have hi_d : dk_i32 d := dk_oki (hok _ (by simp))
  have hi_k : dk_i32 k := dk_oki (hok _ (by simp))
  show dk_PJ E 0 [(4, 0), (0, w), (0, d), (0, k)] [] 190 σ
  refine dk_aload_n (pc' := 1) hE dX10_cost_0 rfl rfl rfl ?_
  refine gf_10_9 (pc' := 4) hE fl_X10_82 dX10_cost_1 is_0 rfl (fun v1 hv1 htv1 hbv1 => ?_)
  have hq1 : s = v1 := (show v1 = s by rw [hv1, h09]).symm
  subst hq1
  clear htv1 hbv1
  refine dk_iload_n (pc' := 5) hE dX10_cost_4 rfl rfl rfl ?_
  refine dk_cV (pc' := 8) (as := [(0, w)]) hE lk_X10_173 (ct_X4_isWork l G hGd s w) dX10_cost_5 rfl (sc_is (by omega)) rfl (by decide) (Nat.le_of_ble_eq_true rfl) ⟨rfl, (by omega)⟩ rfl (fun r3 σ2 hr3 hor3 => ?_)
  obtain ⟨v4, rfl, hfσ2, hpr3⟩ := hr3
  have hsσ2 : σ = σ2 := (funext (fun k => funext (fun j => hfσ2 k j not_false))).symm
  subst hsσ2
  rcases hpr3 with ⟨rfl, hpr3⟩ | rfl
  · skip
    refine dk_if_eq (tgt := 28) (pc' := 11) hE dX10_cost_8 (by decide) rfl (fun hc5 => absurd hc5 (by decide)) (fun hc5 => ?_)
    refine dk_iload_n (pc' := 12) hE dX10_cost_11 rfl rfl rfl ?_
    refine dk_cS (pc' := 15) (as := [(0, d)]) hE lk_X10_128 (ct_X10_isDay l G hGd d) dX10_cost_12 rfl rfl (by decide) (Nat.le_of_ble_eq_true rfl) rfl rfl (fun r7 σ6 hr7 hor7 => ?_)
    obtain ⟨v8, rfl, hfσ6, hpr7⟩ := hr7
    have hsσ6 : σ = σ6 := (funext (fun k => funext (fun j => hfσ6 k j not_false))).symm
    subst hsσ6
    rcases hpr7 with ⟨rfl, hpr7⟩ | ⟨rfl, hpr7⟩
    · skip
      refine dk_if_eq (tgt := 28) (pc' := 18) hE dX10_cost_15 (by decide) rfl (fun hc9 => absurd hc9 (by decide)) (fun hc9 => ?_)
      refine dk_aload_n (pc' := 19) hE dX10_cost_18 rfl rfl rfl ?_
      refine dk_iload_n (pc' := 20) hE dX10_cost_19 rfl rfl rfl ?_
      refine dk_iload_n (pc' := 21) hE dX10_cost_20 rfl rfl rfl ?_
      refine dk_iload_n (pc' := 22) hE dX10_cost_21 rfl rfl rfl ?_
      have hz10 : σ 0 9 = s := by rw [hv1]
      refine dk_cV (pc' := 25) (as := [(0, w), (0, d), (0, k)]) hE lk_X10_245 (ct_X10_findCast l G hGd w d k s) dX10_cost_22 rfl is_0 rfl (by decide) (Nat.le_of_ble_eq_true rfl) ⟨rfl, hG, (by omega), (by omega), (by omega), (by omega)⟩ rfl (fun r12 σ11 hr12 hor12 => ?_)
      obtain ⟨v13, rfl, hfσ11, hpr12⟩ := hr12
      refine dk_if_ne (tgt := 32) (pc' := 28) hE dX10_cost_25 (by decide) rfl (fun hc14 => ?_) (fun hc14 => ?_)
      · skip
        refine dk_aload_n (pc' := 33) hE dX10_cost_32 rfl rfl rfl ?_
        refine gf_10_7 (pc' := 36) (w := 75) hE fl_X10_68 dX10_cost_33 is_0 rfl rfl ?_
        refine gf_0_7 (pc' := 39) hE fl_X10_251 dX10_cost_36 is_75 rfl (fun v15 hv15 htv15 hbv15 => ?_)
        exact dk_lret (st := []) hE hR dX10_cost_39 ⟨_, rfl, (fun k_ j_ h_ => by rw [hfσ11 k_ j_ (fun w_ => h_ (w_.elim (fun x0_ => Or.inl (x0_)) (fun y0_ => y0_.elim (fun x1_ => Or.inr (Or.inl (x1_))) (fun y1_ => y1_.elim (fun x2_ => Or.inr (Or.inr (Or.inl (x2_)))) (fun y2_ => y2_.elim (fun x3_ => Or.inr (Or.inr (Or.inr (Or.inl (x3_))))) (fun y3_ => y3_.elim (fun x4_ => Or.inr (Or.inr (Or.inr (Or.inr (Or.inl (x4_)))))) (fun y4_ => y4_.elim (fun x5_ => Or.inr (Or.inr (Or.inr (Or.inr (Or.inr (Or.inl (x5_))))))) (fun y5_ => y5_.elim (fun x6_ => Or.inr (Or.inr (Or.inr (Or.inr (Or.inr (Or.inr (Or.inl (x6_)))))))) (fun y6_ => y6_.elim (fun x7_ => Or.inr (Or.inr (Or.inr (Or.inr (Or.inr (Or.inr (Or.inr (Or.inl (x7_))))))))) (fun y7_ => y7_.elim (fun x8_ => Or.inr (Or.inr (Or.inr (Or.inr (Or.inr (Or.inr (Or.inr (Or.inr (Or.inl (x8_)))))))))) (fun y8_ => Or.inr (Or.inr (Or.inr (Or.inr (Or.inr (Or.inr (Or.inr (Or.inr (Or.inr (y8_))))))))))))))))))))]), trivial⟩
      · skip
        refine dk_ldc2 (pc' := 31) hE dX10_cost_28 cs_X10_249 (by decide) rfl ?_
        exact dk_lret (st := []) hE hR dX10_cost_31 ⟨_, rfl, (fun k_ j_ h_ => by rw [hfσ11 k_ j_ (fun w_ => h_ (w_.elim (fun x0_ => Or.inl (x0_)) (fun y0_ => y0_.elim (fun x1_ => Or.inr (Or.inl (x1_))) (fun y1_ => y1_.elim (fun x2_ => Or.inr (Or.inr (Or.inl (x2_)))) (fun y2_ => y2_.elim (fun x3_ => Or.inr (Or.inr (Or.inr (Or.inl (x3_))))) (fun y3_ => y3_.elim (fun x4_ => Or.inr (Or.inr (Or.inr (Or.inr (Or.inl (x4_)))))) (fun y4_ => y4_.elim (fun x5_ => Or.inr (Or.inr (Or.inr (Or.inr (Or.inr (Or.inl (x5_))))))) (fun y5_ => y5_.elim (fun x6_ => Or.inr (Or.inr (Or.inr (Or.inr (Or.inr (Or.inr (Or.inl (x6_)))))))) (fun y6_ => y6_.elim (fun x7_ => Or.inr (Or.inr (Or.inr (Or.inr (Or.inr (Or.inr (Or.inr (Or.inl (x7_))))))))) (fun y7_ => y7_.elim (fun x8_ => Or.inr (Or.inr (Or.inr (Or.inr (Or.inr (Or.inr (Or.inr (Or.inr (Or.inl (x8_)))))))))) (fun y8_ => Or.inr (Or.inr (Or.inr (Or.inr (Or.inr (Or.inr (Or.inr (Or.inr (Or.inr (y8_))))))))))))))))))))]), trivial⟩
    · skip
      refine dk_if_eq (tgt := 28) (pc' := 18) hE dX10_cost_15 (by decide) rfl (fun hc16 => ?_) (fun hc16 => absurd hc16 (by decide))
      refine dk_ldc2 (pc' := 31) hE dX10_cost_28 cs_X10_249 (by decide) rfl ?_
      exact dk_lret (st := []) hE hR dX10_cost_31 ⟨_, rfl, (fun k_ j_ h_ => rfl), trivial⟩
  · skip
    refine dk_if_eq (tgt := 28) (pc' := 11) hE dX10_cost_8 (by decide) rfl (fun hc17 => ?_) (fun hc17 => absurd hc17 (by decide))
    refine dk_ldc2 (pc' := 31) hE dX10_cost_28 cs_X10_249 (by decide) rfl ?_
    exact dk_lret (st := []) hE hR dX10_cost_31 ⟨_, rfl, (fun k_ j_ h_ => rfl), trivial⟩
set_option maxHeartbeats 4000000 in
set_option maxRecDepth 20000 in
theorem ct_X10_cast (l : Launch) (G : dkG) (hGd : dk_Gd G) (p d k s : Int) : dk_Ct l G dk_Ty yX10_cast cX10_cast 4 (some .int) 7 190 190 (fun av σ => av = [(4, 0), (0, p), (0, d), (0, k)] ∧ (GI σ) ∧ (dk_sc s) ∧ (s = σ 0 9)) (fun _ σ r_ σ' => ∃ z : Int, r_ = some (0, z) ∧ (∀ k_ j_ : Int, ¬ ((k_ = 45 ∧ j_ = 9) ∨ (k_ = 45 ∧ j_ = 10) ∨ (k_ = 45 ∧ j_ = 11) ∨ (k_ = 45 ∧ j_ = 12) ∨ (46 ≤ k_ ∧ k_ ≤ 74) ∨ (k_ = 75 ∧ j_ = 4) ∨ (k_ = 75 ∧ j_ = 5) ∨ (k_ = 75 ∧ j_ = 6) ∨ (k_ = 75 ∧ j_ = 7) ∨ (77 ≤ k_ ∧ k_ ≤ 87)) → σ' k_ j_ = σ k_ j_) ∧ (True)) := by
  refine dk_enter hGd (by decide) (fun av σ hpre hok => ?_)
  obtain ⟨rfl, hG, hs, h09⟩ := hpre
  refine ⟨Nat.le_of_ble_eq_true rfl, fun E hE hR _ => ?_⟩
  have hi_p : dk_i32 p := dk_oki (hok _ (by simp))
  have hi_d : dk_i32 d := dk_oki (hok _ (by simp))
  have hi_k : dk_i32 k := dk_oki (hok _ (by simp))
  show dk_PJ E 0 [(4, 0), (0, p), (0, d), (0, k)] [] 190 σ
  refine dk_aload_n (pc' := 1) hE dX10_cast_0 rfl rfl rfl ?_
  refine gf_10_9 (pc' := 4) hE fl_X10_82 dX10_cast_1 is_0 rfl (fun v1 hv1 htv1 hbv1 => ?_)
  have hq1 : s = v1 := (show v1 = s by rw [hv1, h09]).symm
  subst hq1
  clear htv1 hbv1
  refine dk_iload_n (pc' := 5) hE dX10_cast_4 rfl rfl rfl ?_
  refine dk_cV (pc' := 8) (as := [(0, p)]) hE lk_X10_140 (ct_X4_isPart l G hGd s p) dX10_cast_5 rfl (sc_is (by omega)) rfl (by decide) (Nat.le_of_ble_eq_true rfl) ⟨rfl, (by omega)⟩ rfl (fun r3 σ2 hr3 hor3 => ?_)
  obtain ⟨v4, rfl, hfσ2, hpr3⟩ := hr3
  have hsσ2 : σ = σ2 := (funext (fun k => funext (fun j => hfσ2 k j not_false))).symm
  subst hsσ2
  rcases hpr3 with ⟨rfl, hpr3⟩ | rfl
  · skip
    refine dk_if_eq (tgt := 36) (pc' := 11) hE dX10_cast_8 (by decide) rfl (fun hc5 => absurd hc5 (by decide)) (fun hc5 => ?_)
    refine dk_iload_n (pc' := 12) hE dX10_cast_11 rfl rfl rfl ?_
    refine dk_cS (pc' := 15) (as := [(0, d)]) hE lk_X10_128 (ct_X10_isDay l G hGd d) dX10_cast_12 rfl rfl (by decide) (Nat.le_of_ble_eq_true rfl) rfl rfl (fun r7 σ6 hr7 hor7 => ?_)
    obtain ⟨v8, rfl, hfσ6, hpr7⟩ := hr7
    have hsσ6 : σ = σ6 := (funext (fun k => funext (fun j => hfσ6 k j not_false))).symm
    subst hsσ6
    rcases hpr7 with ⟨rfl, hpr7⟩ | ⟨rfl, hpr7⟩
    · skip
      refine dk_if_eq (tgt := 36) (pc' := 18) hE dX10_cast_15 (by decide) rfl (fun hc9 => absurd hc9 (by decide)) (fun hc9 => ?_)
      refine dk_aload_n (pc' := 19) hE dX10_cast_18 rfl rfl rfl ?_
      refine dk_aload_n (pc' := 20) hE dX10_cast_19 rfl rfl rfl ?_
      refine gf_10_9 (pc' := 23) hE fl_X10_82 dX10_cast_20 is_0 rfl (fun v10 hv10 htv10 hbv10 => ?_)
      have hq10 : s = v10 := (show v10 = s by rw [hv10, hv1]).symm
      subst hq10
      clear htv10 hbv10
      refine gf_4_4 (pc' := 26) (w := (s + 16)) hE fl_X10_143 dX10_cast_23 (sc_is (by omega)) rfl rfl ?_
      refine dk_iload_n (pc' := 27) hE dX10_cast_26 rfl rfl rfl ?_
      refine ga_63 (pc' := 28) hE dX10_cast_27 (sc_16 hs) (by omega) rfl (fun v11 hv11 htv11 hbv11 => ?_)
      refine dk_iload_n (pc' := 29) hE dX10_cast_28 rfl rfl rfl ?_
      refine dk_iload_n (pc' := 30) hE dX10_cast_29 rfl rfl rfl ?_
      have hz12 : σ 0 9 = s := by rw [hv10]
      refine dk_cV (pc' := 33) (as := [(0, v11), (0, d), (0, k)]) hE lk_X10_245 (ct_X10_findCast l G hGd v11 d k s) dX10_cast_30 rfl is_0 rfl (by decide) (Nat.le_of_ble_eq_true rfl) ⟨rfl, hG, (by omega), (by omega), (by omega), (by omega)⟩ rfl (fun r14 σ13 hr14 hor14 => ?_)
      obtain ⟨v15, rfl, hfσ13, hpr14⟩ := hr14
      refine dk_if_ne (tgt := 38) (pc' := 36) hE dX10_cast_33 (by decide) rfl (fun hc16 => ?_) (fun hc16 => ?_)
      · skip
        refine dk_aload_n (pc' := 39) hE dX10_cast_38 rfl rfl rfl ?_
        refine gf_10_7 (pc' := 42) (w := 75) hE fl_X10_68 dX10_cast_39 is_0 rfl rfl ?_
        refine dk_aload_n (pc' := 43) hE dX10_cast_42 rfl rfl rfl ?_
        refine gf_10_9 (pc' := 46) hE fl_X10_82 dX10_cast_43 is_0 rfl (fun v17 hv17 htv17 hbv17 => ?_)
        have hq17 : s = v17 := (show v17 = s by rw [hv17, hfσ13 0 9 (by omega), hv10]).symm
        subst hq17
        clear htv17 hbv17
        refine dk_iload_n (pc' := 47) hE dX10_cast_46 rfl rfl rfl ?_
        have gi18 : GI σ13 := GI_fr hG (fun k_ j_ h_ => by rw [hfσ13 k_ j_ (fpw19_1016871983 k_ j_ h_)])
        have hz19 : σ13 s 12 = σ s 12 := by rw [hfσ13 s 12 (by omega)]
        have hz20 : σ13 s 12 = σ s 12 := by rw [hfσ13 s 12 (by omega)]
        refine dk_cV (pc' := 50) (as := [(0, p)]) hE lk_X10_255 (ct_X4_seatOf l G hGd s p) dX10_cast_47 rfl (sc_is (by omega)) rfl (by decide) (Nat.le_of_ble_eq_true rfl) ⟨rfl, (by omega), gi18, (by omega)⟩ rfl (fun r22 σ21 hr22 hor22 => ?_)
        obtain ⟨v23, rfl, hfσ21, hpr22⟩ := hr22
        have hsσ21 : σ13 = σ21 := (funext (fun k => funext (fun j => hfσ21 k j not_false))).symm
        subst hsσ21
        refine dk_cV (pc' := 53) (as := [(0, v23)]) hE lk_X10_258 (ct_X0_bodyOf l G hGd v23) dX10_cast_50 rfl is_75 rfl (by decide) (Nat.le_of_ble_eq_true rfl) ⟨rfl, (by omega)⟩ rfl (fun r25 σ24 hr25 hor25 => ?_)
        obtain ⟨v26, rfl, hfσ24, hpr25⟩ := hr25
        have hsσ24 : σ13 = σ24 := (funext (fun k => funext (fun j => hfσ24 k j not_false))).symm
        subst hsσ24
        exact dk_iret (st := []) hE hR dX10_cast_53 ⟨_, rfl, (fun k_ j_ h_ => by rw [hfσ13 k_ j_ (fun w_ => h_ (w_.elim (fun x0_ => Or.inl (x0_)) (fun y0_ => y0_.elim (fun x1_ => Or.inr (Or.inl (x1_))) (fun y1_ => y1_.elim (fun x2_ => Or.inr (Or.inr (Or.inl (x2_)))) (fun y2_ => y2_.elim (fun x3_ => Or.inr (Or.inr (Or.inr (Or.inl (x3_))))) (fun y3_ => y3_.elim (fun x4_ => Or.inr (Or.inr (Or.inr (Or.inr (Or.inl (x4_)))))) (fun y4_ => y4_.elim (fun x5_ => Or.inr (Or.inr (Or.inr (Or.inr (Or.inr (Or.inl (x5_))))))) (fun y5_ => y5_.elim (fun x6_ => Or.inr (Or.inr (Or.inr (Or.inr (Or.inr (Or.inr (Or.inl (x6_)))))))) (fun y6_ => y6_.elim (fun x7_ => Or.inr (Or.inr (Or.inr (Or.inr (Or.inr (Or.inr (Or.inr (Or.inl (x7_))))))))) (fun y7_ => y7_.elim (fun x8_ => Or.inr (Or.inr (Or.inr (Or.inr (Or.inr (Or.inr (Or.inr (Or.inr (Or.inl (x8_)))))))))) (fun y8_ => Or.inr (Or.inr (Or.inr (Or.inr (Or.inr (Or.inr (Or.inr (Or.inr (Or.inr (y8_))))))))))))))))))))]), trivial⟩
      · skip
        refine dk_iconst (pc' := 37) hE dX10_cast_36 (by decide) rfl ?_
        exact dk_iret (st := []) hE hR dX10_cast_37 ⟨_, rfl, (fun k_ j_ h_ => by rw [hfσ13 k_ j_ (fun w_ => h_ (w_.elim (fun x0_ => Or.inl (x0_)) (fun y0_ => y0_.elim (fun x1_ => Or.inr (Or.inl (x1_))) (fun y1_ => y1_.elim (fun x2_ => Or.inr (Or.inr (Or.inl (x2_)))) (fun y2_ => y2_.elim (fun x3_ => Or.inr (Or.inr (Or.inr (Or.inl (x3_))))) (fun y3_ => y3_.elim (fun x4_ => Or.inr (Or.inr (Or.inr (Or.inr (Or.inl (x4_)))))) (fun y4_ => y4_.elim (fun x5_ => Or.inr (Or.inr (Or.inr (Or.inr (Or.inr (Or.inl (x5_))))))) (fun y5_ => y5_.elim (fun x6_ => Or.inr (Or.inr (Or.inr (Or.inr (Or.inr (Or.inr (Or.inl (x6_)))))))) (fun y6_ => y6_.elim (fun x7_ => Or.inr (Or.inr (Or.inr (Or.inr (Or.inr (Or.inr (Or.inr (Or.inl (x7_))))))))) (fun y7_ => y7_.elim (fun x8_ => Or.inr (Or.inr (Or.inr (Or.inr (Or.inr (Or.inr (Or.inr (Or.inr (Or.inl (x8_)))))))))) (fun y8_ => Or.inr (Or.inr (Or.inr (Or.inr (Or.inr (Or.inr (Or.inr (Or.inr (Or.inr (y8_))))))))))))))))))))]), trivial⟩
    · skip
      refine dk_if_eq (tgt := 36) (pc' := 18) hE dX10_cast_15 (by decide) rfl (fun hc27 => ?_) (fun hc27 => absurd hc27 (by decide))
      refine dk_iconst (pc' := 37) hE dX10_cast_36 (by decide) rfl ?_
      exact dk_iret (st := []) hE hR dX10_cast_37 ⟨_, rfl, (fun k_ j_ h_ => rfl), trivial⟩
  · skip
    refine dk_if_eq (tgt := 36) (pc' := 11) hE dX10_cast_8 (by decide) rfl (fun hc28 => ?_) (fun hc28 => absurd hc28 (by decide))
    refine dk_iconst (pc' := 37) hE dX10_cast_36 (by decide) rfl ?_
    exact dk_iret (st := []) hE hR dX10_cast_37 ⟨_, rfl, (fun k_ j_ h_ => rfl), trivial⟩
set_option maxHeartbeats 4000000 in
set_option maxRecDepth 20000 in
theorem ct_X10_covers (l : Launch) (G : dkG) (hGd : dk_Gd G) (p d k s : Int) : dk_Ct l G dk_Ty yX10_covers cX10_covers 7 (some .int) 7 190 190 (fun av σ => av = [(4, 0), (0, p), (0, d), (0, k)] ∧ (GI σ) ∧ (dk_sc s) ∧ (s = σ 0 9)) (fun _ σ r_ σ' => ∃ z : Int, r_ = some (0, z) ∧ (∀ k_ j_ : Int, ¬ ((k_ = 45 ∧ j_ = 9) ∨ (k_ = 45 ∧ j_ = 10) ∨ (k_ = 45 ∧ j_ = 11) ∨ (k_ = 45 ∧ j_ = 12) ∨ (46 ≤ k_ ∧ k_ ≤ 74) ∨ (k_ = 75 ∧ j_ = 4) ∨ (k_ = 75 ∧ j_ = 5) ∨ (k_ = 75 ∧ j_ = 6) ∨ (k_ = 75 ∧ j_ = 7) ∨ (77 ≤ k_ ∧ k_ ≤ 87)) → σ' k_ j_ = σ k_ j_) ∧ (True)) := by
  refine dk_enter hGd (by decide) (fun av σ hpre hok => ?_)
  obtain ⟨rfl, hG, hs, h09⟩ := hpre
  refine ⟨Nat.le_of_ble_eq_true rfl, fun E hE hR _ => ?_⟩
  have hi_p : dk_i32 p := dk_oki (hok _ (by simp))
  have hi_d : dk_i32 d := dk_oki (hok _ (by simp))
  have hi_k : dk_i32 k := dk_oki (hok _ (by simp))
  show dk_PJ E 0 [(4, 0), (0, p), (0, d), (0, k), (9, 0), (9, 0), (9, 0)] [] 190 σ
  refine dk_aload_n (pc' := 1) hE dX10_covers_0 rfl rfl rfl ?_
  refine gf_10_9 (pc' := 4) hE fl_X10_82 dX10_covers_1 is_0 rfl (fun v1 hv1 htv1 hbv1 => ?_)
  have hq1 : s = v1 := (show v1 = s by rw [hv1, h09]).symm
  subst hq1
  clear htv1 hbv1
  refine dk_iload_n (pc' := 5) hE dX10_covers_4 rfl rfl rfl ?_
  refine dk_cV (pc' := 8) (as := [(0, p)]) hE lk_X10_140 (ct_X4_isPart l G hGd s p) dX10_covers_5 rfl (sc_is (by omega)) rfl (by decide) (Nat.le_of_ble_eq_true rfl) ⟨rfl, (by omega)⟩ rfl (fun r3 σ2 hr3 hor3 => ?_)
  obtain ⟨v4, rfl, hfσ2, hpr3⟩ := hr3
  have hsσ2 : σ = σ2 := (funext (fun k => funext (fun j => hfσ2 k j not_false))).symm
  subst hsσ2
  rcases hpr3 with ⟨rfl, hpr3⟩ | rfl
  · skip
    refine dk_if_eq (tgt := 18) (pc' := 11) hE dX10_covers_8 (by decide) rfl (fun hc5 => absurd hc5 (by decide)) (fun hc5 => ?_)
    refine dk_iload_n (pc' := 12) hE dX10_covers_11 rfl rfl rfl ?_
    refine dk_cS (pc' := 15) (as := [(0, d)]) hE lk_X10_128 (ct_X10_isDay l G hGd d) dX10_covers_12 rfl rfl (by decide) (Nat.le_of_ble_eq_true rfl) rfl rfl (fun r7 σ6 hr7 hor7 => ?_)
    obtain ⟨v8, rfl, hfσ6, hpr7⟩ := hr7
    have hsσ6 : σ = σ6 := (funext (fun k => funext (fun j => hfσ6 k j not_false))).symm
    subst hsσ6
    rcases hpr7 with ⟨rfl, hpr7⟩ | ⟨rfl, hpr7⟩
    · skip
      refine dk_if_ne (tgt := 20) (pc' := 18) hE dX10_covers_15 (by decide) rfl (fun hc9 => ?_) (fun hc9 => absurd hc9 (by decide))
      refine dk_aload_n (pc' := 21) hE dX10_covers_20 rfl rfl rfl ?_
      refine dk_aload_n (pc' := 22) hE dX10_covers_21 rfl rfl rfl ?_
      refine gf_10_9 (pc' := 25) hE fl_X10_82 dX10_covers_22 is_0 rfl (fun v10 hv10 htv10 hbv10 => ?_)
      have hq10 : s = v10 := (show v10 = s by rw [hv10, hv1]).symm
      subst hq10
      clear htv10 hbv10
      refine gf_4_4 (pc' := 28) (w := (s + 16)) hE fl_X10_143 dX10_covers_25 (sc_is (by omega)) rfl rfl ?_
      refine dk_iload_n (pc' := 29) hE dX10_covers_28 rfl rfl rfl ?_
      refine ga_63 (pc' := 30) hE dX10_covers_29 (sc_16 hs) (by omega) rfl (fun v11 hv11 htv11 hbv11 => ?_)
      refine dk_iload_n (pc' := 31) hE dX10_covers_30 rfl rfl rfl ?_
      refine dk_iload_n (pc' := 32) hE dX10_covers_31 rfl rfl rfl ?_
      have hz12 : σ 0 9 = s := by rw [hv10]
      refine dk_cV (pc' := 35) (as := [(0, v11), (0, d), (0, k)]) hE lk_X10_245 (ct_X10_findCast l G hGd v11 d k s) dX10_covers_32 rfl is_0 rfl (by decide) (Nat.le_of_ble_eq_true rfl) ⟨rfl, hG, (by omega), (by omega), (by omega), (by omega)⟩ rfl (fun r14 σ13 hr14 hor14 => ?_)
      obtain ⟨v15, rfl, hfσ13, hpr14⟩ := hr14
      refine dk_pop (pc' := 36) hE dX10_covers_35 (show (0 : Nat) ≠ 3 by decide) rfl ?_
      refine dk_aload_n (pc' := 37) hE dX10_covers_36 rfl rfl rfl ?_
      refine gf_10_9 (pc' := 40) hE fl_X10_82 dX10_covers_37 is_0 rfl (fun v16 hv16 htv16 hbv16 => ?_)
      have hq16 : s = v16 := (show v16 = s by rw [hv16, hfσ13 0 9 (by omega), hv10]).symm
      subst hq16
      clear htv16 hbv16
      refine dk_iload_n (pc' := 41) hE dX10_covers_40 rfl rfl rfl ?_
      have gi17 : GI σ13 := GI_fr hG (fun k_ j_ h_ => by rw [hfσ13 k_ j_ (fpw19_1016871983 k_ j_ h_)])
      have hz18 : σ13 s 12 = σ s 12 := by rw [hfσ13 s 12 (by omega)]
      have hz19 : σ13 s 12 = σ s 12 := by rw [hfσ13 s 12 (by omega)]
      refine dk_cV (pc' := 44) (as := [(0, p)]) hE lk_X10_255 (ct_X4_seatOf l G hGd s p) dX10_covers_41 rfl (sc_is (by omega)) rfl (by decide) (Nat.le_of_ble_eq_true rfl) ⟨rfl, (by omega), gi17, (by omega)⟩ rfl (fun r21 σ20 hr21 hor21 => ?_)
      obtain ⟨v22, rfl, hfσ20, hpr21⟩ := hr21
      have hsσ20 : σ13 = σ20 := (funext (fun k => funext (fun j => hfσ20 k j not_false))).symm
      subst hsσ20
      refine dk_istore (pc' := 46) (ls' := [(4, 0), (0, p), (0, d), (0, k), (0, v22), (9, 0), (9, 0)]) hE dX10_covers_44 rfl (by decide) rfl ?_
      refine dk_iconst (pc' := 47) hE dX10_covers_46 (by decide) rfl ?_
      refine dk_istore (pc' := 49) (ls' := [(4, 0), (0, p), (0, d), (0, k), (0, v22), (0, 0), (9, 0)]) hE dX10_covers_47 rfl (by decide) rfl ?_
      refine dk_iconst (pc' := 50) hE dX10_covers_49 (by decide) rfl ?_
      refine dk_istore (pc' := 52) (ls' := [(4, 0), (0, p), (0, d), (0, k), (0, v22), (0, 0), (0, 0)]) hE dX10_covers_50 rfl (by decide) rfl ?_
      have lp52 : ∀ (N_ : Nat) (m i : Int) (σ52c : dkS), (2147483648 - i).toNat < N_ → ((∀ k_ j_ : Int, ¬ (False) → σ52c k_ j_ = σ13 k_ j_)) → (0 ≤ i) → (0 ≤ m ∧ m ≤ i) → dk_PJ E 52 [(4, 0), (0, p), (0, d), (0, k), (0, v22), (0, m), (0, i)] [] 190 σ52c := by
        intro N52
        induction N52 with
        | zero => intro m i σ52c hm; exact absurd hm (Nat.not_lt_zero _)
        | succ N52 ih52 =>
          intro m i σ52c hm52 hF52 hi0 hm
          refine dk_iload (pc' := 54) hE dX10_covers_52 rfl rfl ?_
          refine dk_aload_n (pc' := 55) hE dX10_covers_54 rfl rfl rfl ?_
          refine gf_10_12 (pc' := 58) hE fl_X10_93 dX10_covers_55 is_0 rfl (fun v23 hv23 htv23 hbv23 => ?_)
          refine dk_icmp_ge (tgt := 99) (pc' := 61) hE dX10_covers_58 (by decide) rfl (fun hc24 => ?_) (fun hc24 => ?_)
          · skip
            refine dk_iload (pc' := 101) hE dX10_covers_99 rfl rfl ?_
            exact dk_iret (st := []) hE hR dX10_covers_101 ⟨_, rfl, (fun k_ j_ h_ => by rw [hF52 k_ j_ not_false, hfσ13 k_ j_ (fun w_ => h_ (w_.elim (fun x0_ => Or.inl (x0_)) (fun y0_ => y0_.elim (fun x1_ => Or.inr (Or.inl (x1_))) (fun y1_ => y1_.elim (fun x2_ => Or.inr (Or.inr (Or.inl (x2_)))) (fun y2_ => y2_.elim (fun x3_ => Or.inr (Or.inr (Or.inr (Or.inl (x3_))))) (fun y3_ => y3_.elim (fun x4_ => Or.inr (Or.inr (Or.inr (Or.inr (Or.inl (x4_)))))) (fun y4_ => y4_.elim (fun x5_ => Or.inr (Or.inr (Or.inr (Or.inr (Or.inr (Or.inl (x5_))))))) (fun y5_ => y5_.elim (fun x6_ => Or.inr (Or.inr (Or.inr (Or.inr (Or.inr (Or.inr (Or.inl (x6_)))))))) (fun y6_ => y6_.elim (fun x7_ => Or.inr (Or.inr (Or.inr (Or.inr (Or.inr (Or.inr (Or.inr (Or.inl (x7_))))))))) (fun y7_ => y7_.elim (fun x8_ => Or.inr (Or.inr (Or.inr (Or.inr (Or.inr (Or.inr (Or.inr (Or.inr (Or.inl (x8_)))))))))) (fun y8_ => Or.inr (Or.inr (Or.inr (Or.inr (Or.inr (Or.inr (Or.inr (Or.inr (Or.inr (y8_))))))))))))))))))))]), trivial⟩
          · skip
            refine dk_aload_n (pc' := 62) hE dX10_covers_61 rfl rfl rfl ?_
            refine gf_10_7 (pc' := 65) (w := 75) hE fl_X10_68 dX10_covers_62 is_0 rfl rfl ?_
            refine dk_iload (pc' := 67) hE dX10_covers_65 rfl rfl ?_
            refine dk_iload (pc' := 69) hE dX10_covers_67 rfl rfl ?_
            refine dk_cV (pc' := 72) (as := [(0, v22), (0, i)]) hE lk_X10_261 (ct_X0_isWilling l G hGd v22 i) dX10_covers_69 rfl is_75 rfl (by decide) (Nat.le_of_ble_eq_true rfl) ⟨rfl, (by omega), (by omega)⟩ rfl (fun r26 σ25 hr26 hor26 => ?_)
            obtain ⟨v27, rfl, hfσ25, hpr26⟩ := hr26
            have hsσ25 : σ52c = σ25 := (funext (fun k => funext (fun j => hfσ25 k j not_false))).symm
            subst hsσ25
            refine dk_if_eq (tgt := 93) (pc' := 75) hE dX10_covers_72 (by decide) rfl (fun hc28 => ?_) (fun hc28 => ?_)
            · skip
              obtain ⟨v29, hv29⟩ : ∃ z : Int, z = i + 1 := ⟨_, rfl⟩
              refine dk_iinc (pc' := 96) (ls' := [(4, 0), (0, p), (0, d), (0, k), (0, v22), (0, m), (0, v29)]) hE dX10_covers_93 rfl hv29.symm (by omega) rfl (by decide) rfl ?_
              refine dk_goto (tgt := 52) hE dX10_covers_96 (by decide) ?_
              exact ih52 m v29 σ52c (by omega) (fun k_ j_ h_ => by rw [hF52 k_ j_ not_false]) (by omega) (by omega)
            · skip
              refine dk_aload_n (pc' := 76) hE dX10_covers_75 rfl rfl rfl ?_
              refine gf_10_7 (pc' := 79) (w := 75) hE fl_X10_68 dX10_covers_76 is_0 rfl rfl ?_
              refine dk_cV (pc' := 82) (as := []) hE lk_X10_264 (ct_X0_inCast l G hGd) dX10_covers_79 rfl is_75 rfl (by decide) (Nat.le_of_ble_eq_true rfl) rfl rfl (fun r31 σ30 hr31 hor31 => ?_)
              obtain ⟨v32, rfl, hfσ30, hpr31⟩ := hr31
              have hkv32 := dk_oki (hor31 _ rfl)
              have hsσ30 : σ52c = σ30 := (funext (fun k => funext (fun j => hfσ30 k j not_false))).symm
              subst hsσ30
              refine dk_iconst (pc' := 83) hE dX10_covers_82 (by decide) rfl ?_
              refine dk_iload (pc' := 85) hE dX10_covers_83 rfl rfl ?_
              refine dk_ishl (pc' := 86) hE dX10_covers_85 rfl (fun v33 hv33 ev33 => ?_)
              refine dk_iand (pc' := 87) hE dX10_covers_86 rfl (fun v34 hv34 ev34 => ?_)
              refine dk_if_ne (tgt := 93) (pc' := 90) hE dX10_covers_87 (by decide) rfl (fun hc35 => ?_) (fun hc35 => ?_)
              · skip
                obtain ⟨v36, hv36⟩ : ∃ z : Int, z = i + 1 := ⟨_, rfl⟩
                refine dk_iinc (pc' := 96) (ls' := [(4, 0), (0, p), (0, d), (0, k), (0, v22), (0, m), (0, v36)]) hE dX10_covers_93 rfl hv36.symm (by omega) rfl (by decide) rfl ?_
                refine dk_goto (tgt := 52) hE dX10_covers_96 (by decide) ?_
                exact ih52 m v36 σ52c (by omega) (fun k_ j_ h_ => by rw [hF52 k_ j_ not_false]) (by omega) (by omega)
              · skip
                obtain ⟨v37, hv37⟩ : ∃ z : Int, z = m + 1 := ⟨_, rfl⟩
                refine dk_iinc (pc' := 93) (ls' := [(4, 0), (0, p), (0, d), (0, k), (0, v22), (0, v37), (0, i)]) hE dX10_covers_90 rfl hv37.symm (by omega) rfl (by decide) rfl ?_
                obtain ⟨v38, hv38⟩ : ∃ z : Int, z = i + 1 := ⟨_, rfl⟩
                refine dk_iinc (pc' := 96) (ls' := [(4, 0), (0, p), (0, d), (0, k), (0, v22), (0, v37), (0, v38)]) hE dX10_covers_93 rfl hv38.symm (by omega) rfl (by decide) rfl ?_
                refine dk_goto (tgt := 52) hE dX10_covers_96 (by decide) ?_
                exact ih52 v37 v38 σ52c (by omega) (fun k_ j_ h_ => by rw [hF52 k_ j_ not_false]) (by omega) (by omega)
      exact lp52 _ 0 0 σ13 (Nat.lt_succ_self _) (fun k_ j_ h_ => rfl) (by omega) (by omega)
    · skip
      refine dk_if_ne (tgt := 20) (pc' := 18) hE dX10_covers_15 (by decide) rfl (fun hc39 => absurd hc39 (by decide)) (fun hc39 => ?_)
      refine dk_iconst (pc' := 19) hE dX10_covers_18 (by decide) rfl ?_
      exact dk_iret (st := []) hE hR dX10_covers_19 ⟨_, rfl, (fun k_ j_ h_ => rfl), trivial⟩
  · skip
    refine dk_if_eq (tgt := 18) (pc' := 11) hE dX10_covers_8 (by decide) rfl (fun hc40 => ?_) (fun hc40 => absurd hc40 (by decide))
    refine dk_iconst (pc' := 19) hE dX10_covers_18 (by decide) rfl ?_
    exact dk_iret (st := []) hE hR dX10_covers_19 ⟨_, rfl, (fun k_ j_ h_ => rfl), trivial⟩
set_option maxHeartbeats 4000000 in
set_option maxRecDepth 20000 in
theorem ct_X10_fall (l : Launch) (G : dkG) (hGd : dk_Gd G) (w b d k s : Int) : dk_Ct l G dk_Ty yX10_fall cX10_fall 5 (some .int) 8 190 190 (fun av σ => av = [(4, 0), (0, w), (0, b), (0, d), (0, k)] ∧ (GI σ) ∧ (dk_sc s) ∧ (s = σ 0 9)) (fun _ σ r_ σ' => ∃ z : Int, r_ = some (0, z) ∧ (∀ k_ j_ : Int, ¬ ((k_ = 45 ∧ j_ = 9) ∨ (k_ = 45 ∧ j_ = 10) ∨ (k_ = 45 ∧ j_ = 11) ∨ (k_ = 45 ∧ j_ = 12) ∨ (46 ≤ k_ ∧ k_ ≤ 74) ∨ (k_ = 75 ∧ j_ = 4) ∨ (k_ = 75 ∧ j_ = 5) ∨ (k_ = 75 ∧ j_ = 6) ∨ (k_ = 75 ∧ j_ = 7) ∨ (77 ≤ k_ ∧ k_ ≤ 87)) → σ' k_ j_ = σ k_ j_) ∧ (True)) := by
  refine dk_enter hGd (by decide) (fun av σ hpre hok => ?_)
  obtain ⟨rfl, hG, hs, h09⟩ := hpre
  refine ⟨Nat.le_of_ble_eq_true rfl, fun E hE hR _ => ?_⟩
  have hi_w : dk_i32 w := dk_oki (hok _ (by simp))
  have hi_b : dk_i32 b := dk_oki (hok _ (by simp))
  have hi_d : dk_i32 d := dk_oki (hok _ (by simp))
  have hi_k : dk_i32 k := dk_oki (hok _ (by simp))
  show dk_PJ E 0 [(4, 0), (0, w), (0, b), (0, d), (0, k)] [] 190 σ
  refine dk_aload_n (pc' := 1) hE dX10_fall_0 rfl rfl rfl ?_
  refine gf_10_9 (pc' := 4) hE fl_X10_82 dX10_fall_1 is_0 rfl (fun v1 hv1 htv1 hbv1 => ?_)
  have hq1 : s = v1 := (show v1 = s by rw [hv1, h09]).symm
  subst hq1
  clear htv1 hbv1
  refine dk_iload_n (pc' := 5) hE dX10_fall_4 rfl rfl rfl ?_
  refine dk_cV (pc' := 8) (as := [(0, w)]) hE lk_X10_173 (ct_X4_isWork l G hGd s w) dX10_fall_5 rfl (sc_is (by omega)) rfl (by decide) (Nat.le_of_ble_eq_true rfl) ⟨rfl, (by omega)⟩ rfl (fun r3 σ2 hr3 hor3 => ?_)
  obtain ⟨v4, rfl, hfσ2, hpr3⟩ := hr3
  have hsσ2 : σ = σ2 := (funext (fun k => funext (fun j => hfσ2 k j not_false))).symm
  subst hsσ2
  rcases hpr3 with ⟨rfl, hpr3⟩ | rfl
  · skip
    refine dk_if_eq (tgt := 38) (pc' := 11) hE dX10_fall_8 (by decide) rfl (fun hc5 => absurd hc5 (by decide)) (fun hc5 => ?_)
    refine dk_aload_n (pc' := 12) hE dX10_fall_11 rfl rfl rfl ?_
    refine dk_iload_n (pc' := 13) hE dX10_fall_12 rfl rfl rfl ?_
    refine dk_cV (pc' := 16) (as := [(0, b)]) hE lk_X10_196 (ct_X10_isBody l G hGd b) dX10_fall_13 rfl is_0 rfl (by decide) (Nat.le_of_ble_eq_true rfl) rfl rfl (fun r7 σ6 hr7 hor7 => ?_)
    obtain ⟨v8, rfl, hfσ6, hpr7⟩ := hr7
    have hsσ6 : σ = σ6 := (funext (fun k => funext (fun j => hfσ6 k j not_false))).symm
    subst hsσ6
    rcases hpr7 with ⟨rfl, hpr7⟩ | rfl
    · skip
      refine dk_if_eq (tgt := 38) (pc' := 19) hE dX10_fall_16 (by decide) rfl (fun hc9 => absurd hc9 (by decide)) (fun hc9 => ?_)
      refine dk_iload_n (pc' := 20) hE dX10_fall_19 rfl rfl rfl ?_
      refine dk_cS (pc' := 23) (as := [(0, d)]) hE lk_X10_128 (ct_X10_isDay l G hGd d) dX10_fall_20 rfl rfl (by decide) (Nat.le_of_ble_eq_true rfl) rfl rfl (fun r11 σ10 hr11 hor11 => ?_)
      obtain ⟨v12, rfl, hfσ10, hpr11⟩ := hr11
      have hsσ10 : σ = σ10 := (funext (fun k => funext (fun j => hfσ10 k j not_false))).symm
      subst hsσ10
      rcases hpr11 with ⟨rfl, hpr11⟩ | ⟨rfl, hpr11⟩
      · skip
        refine dk_if_eq (tgt := 38) (pc' := 26) hE dX10_fall_23 (by decide) rfl (fun hc13 => absurd hc13 (by decide)) (fun hc13 => ?_)
        refine dk_aload_n (pc' := 27) hE dX10_fall_26 rfl rfl rfl ?_
        refine dk_iload_n (pc' := 28) hE dX10_fall_27 rfl rfl rfl ?_
        refine dk_iload_n (pc' := 29) hE dX10_fall_28 rfl rfl rfl ?_
        refine dk_iload_n (pc' := 30) hE dX10_fall_29 rfl rfl rfl ?_
        refine dk_iload (pc' := 32) hE dX10_fall_30 rfl rfl ?_
        have hz14 : σ 0 9 = s := by rw [hv1]
        refine dk_cV (pc' := 35) (as := [(0, w), (0, b), (0, d), (0, k)]) hE lk_X10_268 (ct_X10_findFall l G hGd w b d k s) dX10_fall_32 rfl is_0 rfl (by decide) (Nat.le_of_ble_eq_true rfl) ⟨rfl, hG, (by omega), (by omega), (by omega), (by omega), (by omega)⟩ rfl (fun r16 σ15 hr16 hor16 => ?_)
        obtain ⟨v17, rfl, hfσ15, hpr16⟩ := hr16
        refine dk_if_ne (tgt := 40) (pc' := 38) hE dX10_fall_35 (by decide) rfl (fun hc18 => ?_) (fun hc18 => ?_)
        · skip
          refine dk_aload_n (pc' := 41) hE dX10_fall_40 rfl rfl rfl ?_
          refine gf_10_7 (pc' := 44) (w := 75) hE fl_X10_68 dX10_fall_41 is_0 rfl rfl ?_
          refine dk_cV (pc' := 47) (as := []) hE lk_X10_272 (ct_X0_changed l G hGd) dX10_fall_44 rfl is_75 rfl (by decide) (Nat.le_of_ble_eq_true rfl) rfl rfl (fun r20 σ19 hr20 hor20 => ?_)
          obtain ⟨v21, rfl, hfσ19, hpr20⟩ := hr20
          have hkv21 := dk_oki (hor20 _ rfl)
          have hsσ19 : σ15 = σ19 := (funext (fun k => funext (fun j => hfσ19 k j not_false))).symm
          subst hsσ19
          exact dk_iret (st := []) hE hR dX10_fall_47 ⟨_, rfl, (fun k_ j_ h_ => by rw [hfσ15 k_ j_ (fun w_ => h_ (w_.elim (fun x0_ => Or.inl (x0_)) (fun y0_ => y0_.elim (fun x1_ => Or.inr (Or.inl (x1_))) (fun y1_ => y1_.elim (fun x2_ => Or.inr (Or.inr (Or.inl (x2_)))) (fun y2_ => y2_.elim (fun x3_ => Or.inr (Or.inr (Or.inr (Or.inl (x3_))))) (fun y3_ => y3_.elim (fun x4_ => Or.inr (Or.inr (Or.inr (Or.inr (Or.inl (x4_)))))) (fun y4_ => y4_.elim (fun x5_ => Or.inr (Or.inr (Or.inr (Or.inr (Or.inr (Or.inl (x5_))))))) (fun y5_ => y5_.elim (fun x6_ => Or.inr (Or.inr (Or.inr (Or.inr (Or.inr (Or.inr (Or.inl (x6_)))))))) (fun y6_ => y6_.elim (fun x7_ => Or.inr (Or.inr (Or.inr (Or.inr (Or.inr (Or.inr (Or.inr (Or.inl (x7_))))))))) (fun y7_ => y7_.elim (fun x8_ => Or.inr (Or.inr (Or.inr (Or.inr (Or.inr (Or.inr (Or.inr (Or.inr (Or.inl (x8_)))))))))) (fun y8_ => Or.inr (Or.inr (Or.inr (Or.inr (Or.inr (Or.inr (Or.inr (Or.inr (Or.inr (y8_))))))))))))))))))))]), trivial⟩
        · skip
          refine dk_iconst (pc' := 39) hE dX10_fall_38 (by decide) rfl ?_
          exact dk_iret (st := []) hE hR dX10_fall_39 ⟨_, rfl, (fun k_ j_ h_ => by rw [hfσ15 k_ j_ (fun w_ => h_ (w_.elim (fun x0_ => Or.inl (x0_)) (fun y0_ => y0_.elim (fun x1_ => Or.inr (Or.inl (x1_))) (fun y1_ => y1_.elim (fun x2_ => Or.inr (Or.inr (Or.inl (x2_)))) (fun y2_ => y2_.elim (fun x3_ => Or.inr (Or.inr (Or.inr (Or.inl (x3_))))) (fun y3_ => y3_.elim (fun x4_ => Or.inr (Or.inr (Or.inr (Or.inr (Or.inl (x4_)))))) (fun y4_ => y4_.elim (fun x5_ => Or.inr (Or.inr (Or.inr (Or.inr (Or.inr (Or.inl (x5_))))))) (fun y5_ => y5_.elim (fun x6_ => Or.inr (Or.inr (Or.inr (Or.inr (Or.inr (Or.inr (Or.inl (x6_)))))))) (fun y6_ => y6_.elim (fun x7_ => Or.inr (Or.inr (Or.inr (Or.inr (Or.inr (Or.inr (Or.inr (Or.inl (x7_))))))))) (fun y7_ => y7_.elim (fun x8_ => Or.inr (Or.inr (Or.inr (Or.inr (Or.inr (Or.inr (Or.inr (Or.inr (Or.inl (x8_)))))))))) (fun y8_ => Or.inr (Or.inr (Or.inr (Or.inr (Or.inr (Or.inr (Or.inr (Or.inr (Or.inr (y8_))))))))))))))))))))]), trivial⟩
      · skip
        refine dk_if_eq (tgt := 38) (pc' := 26) hE dX10_fall_23 (by decide) rfl (fun hc22 => ?_) (fun hc22 => absurd hc22 (by decide))
        refine dk_iconst (pc' := 39) hE dX10_fall_38 (by decide) rfl ?_
        exact dk_iret (st := []) hE hR dX10_fall_39 ⟨_, rfl, (fun k_ j_ h_ => rfl), trivial⟩
    · skip
      refine dk_if_eq (tgt := 38) (pc' := 19) hE dX10_fall_16 (by decide) rfl (fun hc23 => ?_) (fun hc23 => absurd hc23 (by decide))
      refine dk_iconst (pc' := 39) hE dX10_fall_38 (by decide) rfl ?_
      exact dk_iret (st := []) hE hR dX10_fall_39 ⟨_, rfl, (fun k_ j_ h_ => rfl), trivial⟩
  · skip
    refine dk_if_eq (tgt := 38) (pc' := 11) hE dX10_fall_8 (by decide) rfl (fun hc24 => ?_) (fun hc24 => absurd hc24 (by decide))
    refine dk_iconst (pc' := 39) hE dX10_fall_38 (by decide) rfl ?_
    exact dk_iret (st := []) hE hR dX10_fall_39 ⟨_, rfl, (fun k_ j_ h_ => rfl), trivial⟩
set_option maxHeartbeats 4000000 in
set_option maxRecDepth 20000 in
theorem ct_X10_falls (l : Launch) (G : dkG) (hGd : dk_Gd G) (p b d k s : Int) : dk_Ct l G dk_Ty yX10_falls cX10_falls 5 (some .int) 8 190 190 (fun av σ => av = [(4, 0), (0, p), (0, b), (0, d), (0, k)] ∧ (GI σ) ∧ (dk_sc s) ∧ (s = σ 0 9)) (fun _ σ r_ σ' => ∃ z : Int, r_ = some (0, z) ∧ (∀ k_ j_ : Int, ¬ ((k_ = 45 ∧ j_ = 9) ∨ (k_ = 45 ∧ j_ = 10) ∨ (k_ = 45 ∧ j_ = 11) ∨ (k_ = 45 ∧ j_ = 12) ∨ (46 ≤ k_ ∧ k_ ≤ 74) ∨ (k_ = 75 ∧ j_ = 4) ∨ (k_ = 75 ∧ j_ = 5) ∨ (k_ = 75 ∧ j_ = 6) ∨ (k_ = 75 ∧ j_ = 7) ∨ (77 ≤ k_ ∧ k_ ≤ 87)) → σ' k_ j_ = σ k_ j_) ∧ (True)) := by
  refine dk_enter hGd (by decide) (fun av σ hpre hok => ?_)
  obtain ⟨rfl, hG, hs, h09⟩ := hpre
  refine ⟨Nat.le_of_ble_eq_true rfl, fun E hE hR _ => ?_⟩
  have hi_p : dk_i32 p := dk_oki (hok _ (by simp))
  have hi_b : dk_i32 b := dk_oki (hok _ (by simp))
  have hi_d : dk_i32 d := dk_oki (hok _ (by simp))
  have hi_k : dk_i32 k := dk_oki (hok _ (by simp))
  show dk_PJ E 0 [(4, 0), (0, p), (0, b), (0, d), (0, k)] [] 190 σ
  refine dk_aload_n (pc' := 1) hE dX10_falls_0 rfl rfl rfl ?_
  refine gf_10_9 (pc' := 4) hE fl_X10_82 dX10_falls_1 is_0 rfl (fun v1 hv1 htv1 hbv1 => ?_)
  have hq1 : s = v1 := (show v1 = s by rw [hv1, h09]).symm
  subst hq1
  clear htv1 hbv1
  refine dk_iload_n (pc' := 5) hE dX10_falls_4 rfl rfl rfl ?_
  refine dk_cV (pc' := 8) (as := [(0, p)]) hE lk_X10_140 (ct_X4_isPart l G hGd s p) dX10_falls_5 rfl (sc_is (by omega)) rfl (by decide) (Nat.le_of_ble_eq_true rfl) ⟨rfl, (by omega)⟩ rfl (fun r3 σ2 hr3 hor3 => ?_)
  obtain ⟨v4, rfl, hfσ2, hpr3⟩ := hr3
  have hsσ2 : σ = σ2 := (funext (fun k => funext (fun j => hfσ2 k j not_false))).symm
  subst hsσ2
  rcases hpr3 with ⟨rfl, hpr3⟩ | rfl
  · skip
    refine dk_if_eq (tgt := 46) (pc' := 11) hE dX10_falls_8 (by decide) rfl (fun hc5 => absurd hc5 (by decide)) (fun hc5 => ?_)
    refine dk_aload_n (pc' := 12) hE dX10_falls_11 rfl rfl rfl ?_
    refine dk_iload_n (pc' := 13) hE dX10_falls_12 rfl rfl rfl ?_
    refine dk_cV (pc' := 16) (as := [(0, b)]) hE lk_X10_196 (ct_X10_isBody l G hGd b) dX10_falls_13 rfl is_0 rfl (by decide) (Nat.le_of_ble_eq_true rfl) rfl rfl (fun r7 σ6 hr7 hor7 => ?_)
    obtain ⟨v8, rfl, hfσ6, hpr7⟩ := hr7
    have hsσ6 : σ = σ6 := (funext (fun k => funext (fun j => hfσ6 k j not_false))).symm
    subst hsσ6
    rcases hpr7 with ⟨rfl, hpr7⟩ | rfl
    · skip
      refine dk_if_eq (tgt := 46) (pc' := 19) hE dX10_falls_16 (by decide) rfl (fun hc9 => absurd hc9 (by decide)) (fun hc9 => ?_)
      refine dk_iload_n (pc' := 20) hE dX10_falls_19 rfl rfl rfl ?_
      refine dk_cS (pc' := 23) (as := [(0, d)]) hE lk_X10_128 (ct_X10_isDay l G hGd d) dX10_falls_20 rfl rfl (by decide) (Nat.le_of_ble_eq_true rfl) rfl rfl (fun r11 σ10 hr11 hor11 => ?_)
      obtain ⟨v12, rfl, hfσ10, hpr11⟩ := hr11
      have hsσ10 : σ = σ10 := (funext (fun k => funext (fun j => hfσ10 k j not_false))).symm
      subst hsσ10
      rcases hpr11 with ⟨rfl, hpr11⟩ | ⟨rfl, hpr11⟩
      · skip
        refine dk_if_eq (tgt := 46) (pc' := 26) hE dX10_falls_23 (by decide) rfl (fun hc13 => absurd hc13 (by decide)) (fun hc13 => ?_)
        refine dk_aload_n (pc' := 27) hE dX10_falls_26 rfl rfl rfl ?_
        refine dk_aload_n (pc' := 28) hE dX10_falls_27 rfl rfl rfl ?_
        refine gf_10_9 (pc' := 31) hE fl_X10_82 dX10_falls_28 is_0 rfl (fun v14 hv14 htv14 hbv14 => ?_)
        have hq14 : s = v14 := (show v14 = s by rw [hv14, hv1]).symm
        subst hq14
        clear htv14 hbv14
        refine gf_4_4 (pc' := 34) (w := (s + 16)) hE fl_X10_143 dX10_falls_31 (sc_is (by omega)) rfl rfl ?_
        refine dk_iload_n (pc' := 35) hE dX10_falls_34 rfl rfl rfl ?_
        refine ga_63 (pc' := 36) hE dX10_falls_35 (sc_16 hs) (by omega) rfl (fun v15 hv15 htv15 hbv15 => ?_)
        refine dk_iload_n (pc' := 37) hE dX10_falls_36 rfl rfl rfl ?_
        refine dk_iload_n (pc' := 38) hE dX10_falls_37 rfl rfl rfl ?_
        refine dk_iload (pc' := 40) hE dX10_falls_38 rfl rfl ?_
        have hz16 : σ 0 9 = s := by rw [hv14]
        refine dk_cV (pc' := 43) (as := [(0, v15), (0, b), (0, d), (0, k)]) hE lk_X10_268 (ct_X10_findFall l G hGd v15 b d k s) dX10_falls_40 rfl is_0 rfl (by decide) (Nat.le_of_ble_eq_true rfl) ⟨rfl, hG, (by omega), (by omega), (by omega), (by omega), (by omega)⟩ rfl (fun r18 σ17 hr18 hor18 => ?_)
        obtain ⟨v19, rfl, hfσ17, hpr18⟩ := hr18
        refine dk_if_ne (tgt := 48) (pc' := 46) hE dX10_falls_43 (by decide) rfl (fun hc20 => ?_) (fun hc20 => ?_)
        · skip
          refine dk_aload_n (pc' := 49) hE dX10_falls_48 rfl rfl rfl ?_
          refine gf_10_7 (pc' := 52) (w := 75) hE fl_X10_68 dX10_falls_49 is_0 rfl rfl ?_
          refine dk_aload_n (pc' := 53) hE dX10_falls_52 rfl rfl rfl ?_
          refine gf_10_9 (pc' := 56) hE fl_X10_82 dX10_falls_53 is_0 rfl (fun v21 hv21 htv21 hbv21 => ?_)
          have hq21 : s = v21 := (show v21 = s by rw [hv21, hfσ17 0 9 (by omega), hv14]).symm
          subst hq21
          clear htv21 hbv21
          refine dk_iload_n (pc' := 57) hE dX10_falls_56 rfl rfl rfl ?_
          have gi22 : GI σ17 := GI_fr hG (fun k_ j_ h_ => by rw [hfσ17 k_ j_ (fpw19_1016871983 k_ j_ h_)])
          have hz23 : σ17 s 12 = σ s 12 := by rw [hfσ17 s 12 (by omega)]
          have hz24 : σ17 s 12 = σ s 12 := by rw [hfσ17 s 12 (by omega)]
          refine dk_cV (pc' := 60) (as := [(0, p)]) hE lk_X10_255 (ct_X4_seatOf l G hGd s p) dX10_falls_57 rfl (sc_is (by omega)) rfl (by decide) (Nat.le_of_ble_eq_true rfl) ⟨rfl, (by omega), gi22, (by omega)⟩ rfl (fun r26 σ25 hr26 hor26 => ?_)
          obtain ⟨v27, rfl, hfσ25, hpr26⟩ := hr26
          have hsσ25 : σ17 = σ25 := (funext (fun k => funext (fun j => hfσ25 k j not_false))).symm
          subst hsσ25
          refine dk_cV (pc' := 63) (as := [(0, v27)]) hE lk_X10_258 (ct_X0_bodyOf l G hGd v27) dX10_falls_60 rfl is_75 rfl (by decide) (Nat.le_of_ble_eq_true rfl) ⟨rfl, (by omega)⟩ rfl (fun r29 σ28 hr29 hor29 => ?_)
          obtain ⟨v30, rfl, hfσ28, hpr29⟩ := hr29
          have hsσ28 : σ17 = σ28 := (funext (fun k => funext (fun j => hfσ28 k j not_false))).symm
          subst hsσ28
          exact dk_iret (st := []) hE hR dX10_falls_63 ⟨_, rfl, (fun k_ j_ h_ => by rw [hfσ17 k_ j_ (fun w_ => h_ (w_.elim (fun x0_ => Or.inl (x0_)) (fun y0_ => y0_.elim (fun x1_ => Or.inr (Or.inl (x1_))) (fun y1_ => y1_.elim (fun x2_ => Or.inr (Or.inr (Or.inl (x2_)))) (fun y2_ => y2_.elim (fun x3_ => Or.inr (Or.inr (Or.inr (Or.inl (x3_))))) (fun y3_ => y3_.elim (fun x4_ => Or.inr (Or.inr (Or.inr (Or.inr (Or.inl (x4_)))))) (fun y4_ => y4_.elim (fun x5_ => Or.inr (Or.inr (Or.inr (Or.inr (Or.inr (Or.inl (x5_))))))) (fun y5_ => y5_.elim (fun x6_ => Or.inr (Or.inr (Or.inr (Or.inr (Or.inr (Or.inr (Or.inl (x6_)))))))) (fun y6_ => y6_.elim (fun x7_ => Or.inr (Or.inr (Or.inr (Or.inr (Or.inr (Or.inr (Or.inr (Or.inl (x7_))))))))) (fun y7_ => y7_.elim (fun x8_ => Or.inr (Or.inr (Or.inr (Or.inr (Or.inr (Or.inr (Or.inr (Or.inr (Or.inl (x8_)))))))))) (fun y8_ => Or.inr (Or.inr (Or.inr (Or.inr (Or.inr (Or.inr (Or.inr (Or.inr (Or.inr (y8_))))))))))))))))))))]), trivial⟩
        · skip
          refine dk_iconst (pc' := 47) hE dX10_falls_46 (by decide) rfl ?_
          exact dk_iret (st := []) hE hR dX10_falls_47 ⟨_, rfl, (fun k_ j_ h_ => by rw [hfσ17 k_ j_ (fun w_ => h_ (w_.elim (fun x0_ => Or.inl (x0_)) (fun y0_ => y0_.elim (fun x1_ => Or.inr (Or.inl (x1_))) (fun y1_ => y1_.elim (fun x2_ => Or.inr (Or.inr (Or.inl (x2_)))) (fun y2_ => y2_.elim (fun x3_ => Or.inr (Or.inr (Or.inr (Or.inl (x3_))))) (fun y3_ => y3_.elim (fun x4_ => Or.inr (Or.inr (Or.inr (Or.inr (Or.inl (x4_)))))) (fun y4_ => y4_.elim (fun x5_ => Or.inr (Or.inr (Or.inr (Or.inr (Or.inr (Or.inl (x5_))))))) (fun y5_ => y5_.elim (fun x6_ => Or.inr (Or.inr (Or.inr (Or.inr (Or.inr (Or.inr (Or.inl (x6_)))))))) (fun y6_ => y6_.elim (fun x7_ => Or.inr (Or.inr (Or.inr (Or.inr (Or.inr (Or.inr (Or.inr (Or.inl (x7_))))))))) (fun y7_ => y7_.elim (fun x8_ => Or.inr (Or.inr (Or.inr (Or.inr (Or.inr (Or.inr (Or.inr (Or.inr (Or.inl (x8_)))))))))) (fun y8_ => Or.inr (Or.inr (Or.inr (Or.inr (Or.inr (Or.inr (Or.inr (Or.inr (Or.inr (y8_))))))))))))))))))))]), trivial⟩
      · skip
        refine dk_if_eq (tgt := 46) (pc' := 26) hE dX10_falls_23 (by decide) rfl (fun hc31 => ?_) (fun hc31 => absurd hc31 (by decide))
        refine dk_iconst (pc' := 47) hE dX10_falls_46 (by decide) rfl ?_
        exact dk_iret (st := []) hE hR dX10_falls_47 ⟨_, rfl, (fun k_ j_ h_ => rfl), trivial⟩
    · skip
      refine dk_if_eq (tgt := 46) (pc' := 19) hE dX10_falls_16 (by decide) rfl (fun hc32 => ?_) (fun hc32 => absurd hc32 (by decide))
      refine dk_iconst (pc' := 47) hE dX10_falls_46 (by decide) rfl ?_
      exact dk_iret (st := []) hE hR dX10_falls_47 ⟨_, rfl, (fun k_ j_ h_ => rfl), trivial⟩
  · skip
    refine dk_if_eq (tgt := 46) (pc' := 11) hE dX10_falls_8 (by decide) rfl (fun hc33 => ?_) (fun hc33 => absurd hc33 (by decide))
    refine dk_iconst (pc' := 47) hE dX10_falls_46 (by decide) rfl ?_
    exact dk_iret (st := []) hE hR dX10_falls_47 ⟨_, rfl, (fun k_ j_ h_ => rfl), trivial⟩
set_option maxHeartbeats 4000000 in
set_option maxRecDepth 20000 in
theorem ct_X10_learn (l : Launch) (G : dkG) (hGd : dk_Gd G) (b p d k s : Int) : dk_Ct l G dk_Ty yX10_learn cX10_learn 5 (some .int) 5 190 190 (fun av σ => av = [(4, 0), (0, b), (0, p), (0, d), (0, k)] ∧ (GI σ) ∧ (dk_sc s) ∧ (s = σ 0 9)) (fun _ σ r_ σ' => ∃ z : Int, r_ = some (0, z) ∧ (∀ k_ j_ : Int, ¬ ((k_ = 45 ∧ j_ = 9) ∨ (k_ = 45 ∧ j_ = 10) ∨ (k_ = 45 ∧ j_ = 11) ∨ (k_ = 45 ∧ j_ = 12) ∨ (46 ≤ k_ ∧ k_ ≤ 74)) → σ' k_ j_ = σ k_ j_) ∧ (True)) := by
  refine dk_enter hGd (by decide) (fun av σ hpre hok => ?_)
  obtain ⟨rfl, hG, hs, h09⟩ := hpre
  refine ⟨Nat.le_of_ble_eq_true rfl, fun E hE hR _ => ?_⟩
  have hi_b : dk_i32 b := dk_oki (hok _ (by simp))
  have hi_p : dk_i32 p := dk_oki (hok _ (by simp))
  have hi_d : dk_i32 d := dk_oki (hok _ (by simp))
  have hi_k : dk_i32 k := dk_oki (hok _ (by simp))
  show dk_PJ E 0 [(4, 0), (0, b), (0, p), (0, d), (0, k)] [] 190 σ
  refine dk_aload_n (pc' := 1) hE dX10_learn_0 rfl rfl rfl ?_
  refine dk_iload_n (pc' := 2) hE dX10_learn_1 rfl rfl rfl ?_
  refine dk_cV (pc' := 5) (as := [(0, b)]) hE lk_X10_196 (ct_X10_isBody l G hGd b) dX10_learn_2 rfl is_0 rfl (by decide) (Nat.le_of_ble_eq_true rfl) rfl rfl (fun r2 σ1 hr2 hor2 => ?_)
  obtain ⟨v3, rfl, hfσ1, hpr2⟩ := hr2
  have hsσ1 : σ = σ1 := (funext (fun k => funext (fun j => hfσ1 k j not_false))).symm
  subst hsσ1
  rcases hpr2 with ⟨rfl, hpr2⟩ | rfl
  · skip
    refine dk_if_eq (tgt := 26) (pc' := 8) hE dX10_learn_5 (by decide) rfl (fun hc4 => absurd hc4 (by decide)) (fun hc4 => ?_)
    refine dk_aload_n (pc' := 9) hE dX10_learn_8 rfl rfl rfl ?_
    refine gf_10_9 (pc' := 12) hE fl_X10_82 dX10_learn_9 is_0 rfl (fun v5 hv5 htv5 hbv5 => ?_)
    have hq5 : s = v5 := (show v5 = s by rw [hv5, h09]).symm
    subst hq5
    clear htv5 hbv5
    refine dk_iload_n (pc' := 13) hE dX10_learn_12 rfl rfl rfl ?_
    refine dk_cV (pc' := 16) (as := [(0, p)]) hE lk_X10_140 (ct_X4_isPart l G hGd s p) dX10_learn_13 rfl (sc_is (by omega)) rfl (by decide) (Nat.le_of_ble_eq_true rfl) ⟨rfl, (by omega)⟩ rfl (fun r7 σ6 hr7 hor7 => ?_)
    obtain ⟨v8, rfl, hfσ6, hpr7⟩ := hr7
    have hsσ6 : σ = σ6 := (funext (fun k => funext (fun j => hfσ6 k j not_false))).symm
    subst hsσ6
    rcases hpr7 with ⟨rfl, hpr7⟩ | rfl
    · skip
      refine dk_if_eq (tgt := 26) (pc' := 19) hE dX10_learn_16 (by decide) rfl (fun hc9 => absurd hc9 (by decide)) (fun hc9 => ?_)
      refine dk_iload_n (pc' := 20) hE dX10_learn_19 rfl rfl rfl ?_
      refine dk_cS (pc' := 23) (as := [(0, d)]) hE lk_X10_128 (ct_X10_isDay l G hGd d) dX10_learn_20 rfl rfl (by decide) (Nat.le_of_ble_eq_true rfl) rfl rfl (fun r11 σ10 hr11 hor11 => ?_)
      obtain ⟨v12, rfl, hfσ10, hpr11⟩ := hr11
      have hsσ10 : σ = σ10 := (funext (fun k => funext (fun j => hfσ10 k j not_false))).symm
      subst hsσ10
      rcases hpr11 with ⟨rfl, hpr11⟩ | ⟨rfl, hpr11⟩
      · skip
        refine dk_if_ne (tgt := 28) (pc' := 26) hE dX10_learn_23 (by decide) rfl (fun hc13 => ?_) (fun hc13 => absurd hc13 (by decide))
        refine dk_aload_n (pc' := 29) hE dX10_learn_28 rfl rfl rfl ?_
        refine dk_iload_n (pc' := 30) hE dX10_learn_29 rfl rfl rfl ?_
        refine dk_iload (pc' := 32) hE dX10_learn_30 rfl rfl ?_
        have hz14 : σ 0 9 = s := by rw [hv5]
        refine dk_cV (pc' := 35) (as := [(0, d), (0, k)]) hE lk_X10_225 (ct_X10_openDay l G hGd d k s) dX10_learn_32 rfl is_0 rfl (by decide) (Nat.le_of_ble_eq_true rfl) ⟨rfl, hG, (by omega), (by omega), (by omega)⟩ rfl (fun r16 σ15 hr16 hor16 => ?_)
        obtain ⟨rfl, hfσ15, hpr16⟩ := hr16
        refine dk_aload_n (pc' := 36) hE dX10_learn_35 rfl rfl rfl ?_
        refine gf_10_6 (pc' := 39) (w := 45) hE fl_X10_61 dX10_learn_36 is_0 rfl rfl ?_
        refine dk_iload_n (pc' := 40) hE dX10_learn_39 rfl rfl rfl ?_
        refine dk_iload_n (pc' := 41) hE dX10_learn_40 rfl rfl rfl ?_
        refine dk_cV (pc' := 44) (as := [(0, b), (0, p)]) hE lk_X10_275 (ct_X6_isKnown l G hGd b p) dX10_learn_41 rfl is_45 rfl (by decide) (Nat.le_of_ble_eq_true rfl) ⟨rfl, (by omega), (by omega)⟩ rfl (fun r18 σ17 hr18 hor18 => ?_)
        obtain ⟨v19, rfl, hfσ17, hpr18⟩ := hr18
        have hsσ17 : σ15 = σ17 := (funext (fun k => funext (fun j => hfσ17 k j not_false))).symm
        subst hsσ17
        refine dk_if_eq (tgt := 49) (pc' := 47) hE dX10_learn_44 (by decide) rfl (fun hc20 => ?_) (fun hc20 => ?_)
        · skip
          refine dk_aload_n (pc' := 50) hE dX10_learn_49 rfl rfl rfl ?_
          refine gf_10_6 (pc' := 53) (w := 45) hE fl_X10_61 dX10_learn_50 is_0 rfl rfl ?_
          refine dk_iload_n (pc' := 54) hE dX10_learn_53 rfl rfl rfl ?_
          refine dk_iload_n (pc' := 55) hE dX10_learn_54 rfl rfl rfl ?_
          have hz21 : σ15 45 9 = s := by rw [(hpr16).symm]
          refine dk_cV (pc' := 58) (as := [(0, b), (0, p)]) hE lk_X10_278 (ct_X6_hasTeacher l G hGd b p s) dX10_learn_55 rfl is_45 rfl (by decide) (Nat.le_of_ble_eq_true rfl) ⟨rfl, (by omega), (by omega), (by omega)⟩ rfl (fun r23 σ22 hr23 hor23 => ?_)
          obtain ⟨v24, rfl, hfσ22, hpr23⟩ := hr23
          refine dk_if_eq (tgt := 73) (pc' := 61) hE dX10_learn_58 (by decide) rfl (fun hc25 => ?_) (fun hc25 => ?_)
          · skip
            refine dk_iconst (pc' := 74) hE dX10_learn_73 (by decide) rfl ?_
            exact dk_iret (st := []) hE hR dX10_learn_74 ⟨_, rfl, (fun k_ j_ h_ => by rw [hfσ22 k_ j_ (fun w_ => h_ (Or.inr (Or.inr (Or.inr (Or.inr (dk_wrr (lo := 46) (hi := 74) w_ (by decide) (by decide))))))), hfσ15 k_ j_ (fun w_ => h_ (w_.elim (fun x0_ => Or.inl (x0_)) (fun y0_ => y0_.elim (fun x1_ => Or.inr (Or.inl (x1_))) (fun y1_ => y1_.elim (fun x2_ => Or.inr (Or.inr (Or.inl (x2_)))) (fun y2_ => y2_.elim (fun x3_ => Or.inr (Or.inr (Or.inr (Or.inl (x3_))))) (fun y3_ => Or.inr (Or.inr (Or.inr (Or.inr (y3_))))))))))]), trivial⟩
          · skip
            refine dk_aload_n (pc' := 62) hE dX10_learn_61 rfl rfl rfl ?_
            refine gf_10_6 (pc' := 65) (w := 45) hE fl_X10_61 dX10_learn_62 is_0 rfl rfl ?_
            refine dk_iload_n (pc' := 66) hE dX10_learn_65 rfl rfl rfl ?_
            refine dk_iload_n (pc' := 67) hE dX10_learn_66 rfl rfl rfl ?_
            have gi26 : GI σ22 := GI_fr hG (fun k_ j_ h_ => by rw [hfσ22 k_ j_ (fpw19_2034878306 k_ j_ h_), hfσ15 k_ j_ (fpw19_3971855425 k_ j_ h_)])
            have hz27 : σ22 45 9 = s := by rw [hfσ22 45 9 (by omega), (hpr16).symm]
            refine dk_cV (pc' := 70) (as := [(0, b), (0, p)]) hE lk_X10_281 (ct_X6_hoursToLearn l G hGd b p s) dX10_learn_67 rfl is_45 rfl (by decide) (Nat.le_of_ble_eq_true rfl) ⟨rfl, gi26, (by omega), (by omega), (by omega), (by omega)⟩ rfl (fun r29 σ28 hr29 hor29 => ?_)
            obtain ⟨v30, rfl, hfσ28, hpr29⟩ := hr29
            have hkv30 := dk_oki (hor29 _ rfl)
            have hsσ28 : σ22 = σ28 := (funext (fun k => funext (fun j => hfσ28 k j not_false))).symm
            subst hsσ28
            refine dk_goto (tgt := 74) hE dX10_learn_70 (by decide) ?_
            exact dk_iret (st := []) hE hR dX10_learn_74 ⟨_, rfl, (fun k_ j_ h_ => by rw [hfσ22 k_ j_ (fun w_ => h_ (Or.inr (Or.inr (Or.inr (Or.inr (dk_wrr (lo := 46) (hi := 74) w_ (by decide) (by decide))))))), hfσ15 k_ j_ (fun w_ => h_ (w_.elim (fun x0_ => Or.inl (x0_)) (fun y0_ => y0_.elim (fun x1_ => Or.inr (Or.inl (x1_))) (fun y1_ => y1_.elim (fun x2_ => Or.inr (Or.inr (Or.inl (x2_)))) (fun y2_ => y2_.elim (fun x3_ => Or.inr (Or.inr (Or.inr (Or.inl (x3_))))) (fun y3_ => Or.inr (Or.inr (Or.inr (Or.inr (y3_))))))))))]), trivial⟩
        · skip
          refine dk_iconst (pc' := 48) hE dX10_learn_47 (by decide) rfl ?_
          exact dk_iret (st := []) hE hR dX10_learn_48 ⟨_, rfl, (fun k_ j_ h_ => by rw [hfσ15 k_ j_ (fun w_ => h_ (w_.elim (fun x0_ => Or.inl (x0_)) (fun y0_ => y0_.elim (fun x1_ => Or.inr (Or.inl (x1_))) (fun y1_ => y1_.elim (fun x2_ => Or.inr (Or.inr (Or.inl (x2_)))) (fun y2_ => y2_.elim (fun x3_ => Or.inr (Or.inr (Or.inr (Or.inl (x3_))))) (fun y3_ => Or.inr (Or.inr (Or.inr (Or.inr (y3_))))))))))]), trivial⟩
      · skip
        refine dk_if_ne (tgt := 28) (pc' := 26) hE dX10_learn_23 (by decide) rfl (fun hc31 => absurd hc31 (by decide)) (fun hc31 => ?_)
        refine dk_iconst (pc' := 27) hE dX10_learn_26 (by decide) rfl ?_
        exact dk_iret (st := []) hE hR dX10_learn_27 ⟨_, rfl, (fun k_ j_ h_ => rfl), trivial⟩
    · skip
      refine dk_if_eq (tgt := 26) (pc' := 19) hE dX10_learn_16 (by decide) rfl (fun hc32 => ?_) (fun hc32 => absurd hc32 (by decide))
      refine dk_iconst (pc' := 27) hE dX10_learn_26 (by decide) rfl ?_
      exact dk_iret (st := []) hE hR dX10_learn_27 ⟨_, rfl, (fun k_ j_ h_ => rfl), trivial⟩
  · skip
    refine dk_if_eq (tgt := 26) (pc' := 8) hE dX10_learn_5 (by decide) rfl (fun hc33 => ?_) (fun hc33 => absurd hc33 (by decide))
    refine dk_iconst (pc' := 27) hE dX10_learn_26 (by decide) rfl ?_
    exact dk_iret (st := []) hE hR dX10_learn_27 ⟨_, rfl, (fun k_ j_ h_ => rfl), trivial⟩
set_option maxHeartbeats 4000000 in
set_option maxRecDepth 20000 in
theorem ct_X10_rehearse (l : Launch) (G : dkG) (hGd : dk_Gd G) (w d s : Int) : dk_Ct l G dk_Ty yX10_rehearse cX10_rehearse 3 (some .int) 2 190 190 (fun av σ => av = [(4, 0), (0, w), (0, d)] ∧ (GI σ) ∧ (dk_sc s) ∧ (s = σ 0 9)) (fun _ σ r_ σ' => ∃ z : Int, r_ = some (0, z) ∧ (∀ k_ j_ : Int, ¬ ((k_ = 88 ∧ j_ = 6) ∨ (89 ≤ k_ ∧ k_ ≤ 90)) → σ' k_ j_ = σ k_ j_) ∧ (True)) := by
  refine dk_enter hGd (by decide) (fun av σ hpre hok => ?_)
  obtain ⟨rfl, hG, hs, h09⟩ := hpre
  refine ⟨Nat.le_of_ble_eq_true rfl, fun E hE hR _ => ?_⟩
  have hi_w : dk_i32 w := dk_oki (hok _ (by simp))
  have hi_d : dk_i32 d := dk_oki (hok _ (by simp))
  show dk_PJ E 0 [(4, 0), (0, w), (0, d)] [] 190 σ
  refine dk_aload_n (pc' := 1) hE dX10_rehearse_0 rfl rfl rfl ?_
  refine gf_10_9 (pc' := 4) hE fl_X10_82 dX10_rehearse_1 is_0 rfl (fun v1 hv1 htv1 hbv1 => ?_)
  have hq1 : s = v1 := (show v1 = s by rw [hv1, h09]).symm
  subst hq1
  clear htv1 hbv1
  refine dk_iload_n (pc' := 5) hE dX10_rehearse_4 rfl rfl rfl ?_
  refine dk_cV (pc' := 8) (as := [(0, w)]) hE lk_X10_173 (ct_X4_isWork l G hGd s w) dX10_rehearse_5 rfl (sc_is (by omega)) rfl (by decide) (Nat.le_of_ble_eq_true rfl) ⟨rfl, (by omega)⟩ rfl (fun r3 σ2 hr3 hor3 => ?_)
  obtain ⟨v4, rfl, hfσ2, hpr3⟩ := hr3
  have hsσ2 : σ = σ2 := (funext (fun k => funext (fun j => hfσ2 k j not_false))).symm
  subst hsσ2
  rcases hpr3 with ⟨rfl, hpr3⟩ | rfl
  · skip
    refine dk_if_eq (tgt := 18) (pc' := 11) hE dX10_rehearse_8 (by decide) rfl (fun hc5 => absurd hc5 (by decide)) (fun hc5 => ?_)
    refine dk_iload_n (pc' := 12) hE dX10_rehearse_11 rfl rfl rfl ?_
    refine dk_cS (pc' := 15) (as := [(0, d)]) hE lk_X10_128 (ct_X10_isDay l G hGd d) dX10_rehearse_12 rfl rfl (by decide) (Nat.le_of_ble_eq_true rfl) rfl rfl (fun r7 σ6 hr7 hor7 => ?_)
    obtain ⟨v8, rfl, hfσ6, hpr7⟩ := hr7
    have hsσ6 : σ = σ6 := (funext (fun k => funext (fun j => hfσ6 k j not_false))).symm
    subst hsσ6
    rcases hpr7 with ⟨rfl, hpr7⟩ | ⟨rfl, hpr7⟩
    · skip
      refine dk_if_ne (tgt := 20) (pc' := 18) hE dX10_rehearse_15 (by decide) rfl (fun hc9 => ?_) (fun hc9 => absurd hc9 (by decide))
      refine dk_aload_n (pc' := 21) hE dX10_rehearse_20 rfl rfl rfl ?_
      refine gf_10_8 (pc' := 24) (w := 88) hE fl_X10_75 dX10_rehearse_21 is_0 rfl rfl ?_
      refine dk_iload_n (pc' := 25) hE dX10_rehearse_24 rfl rfl rfl ?_
      refine dk_iload_n (pc' := 26) hE dX10_rehearse_25 rfl rfl rfl ?_
      refine dk_cV (pc' := 29) (as := [(0, w), (0, d)]) hE lk_X10_284 (ct_X8_add l G hGd w d) dX10_rehearse_26 rfl is_88 rfl (by decide) (Nat.le_of_ble_eq_true rfl) ⟨rfl, (by omega), (by omega)⟩ rfl (fun r11 σ10 hr11 hor11 => ?_)
      obtain ⟨v12, rfl, hfσ10, hpr11⟩ := hr11
      have hkv12 := dk_oki (hor11 _ rfl)
      exact dk_iret (st := []) hE hR dX10_rehearse_29 ⟨_, rfl, (fun k_ j_ h_ => by rw [hfσ10 k_ j_ (fun w_ => h_ (w_.elim (fun x0_ => Or.inl (x0_)) (fun y0_ => Or.inr (y0_))))]), trivial⟩
    · skip
      refine dk_if_ne (tgt := 20) (pc' := 18) hE dX10_rehearse_15 (by decide) rfl (fun hc13 => absurd hc13 (by decide)) (fun hc13 => ?_)
      refine dk_iconst (pc' := 19) hE dX10_rehearse_18 (by decide) rfl ?_
      exact dk_iret (st := []) hE hR dX10_rehearse_19 ⟨_, rfl, (fun k_ j_ h_ => rfl), trivial⟩
  · skip
    refine dk_if_eq (tgt := 18) (pc' := 11) hE dX10_rehearse_8 (by decide) rfl (fun hc14 => ?_) (fun hc14 => absurd hc14 (by decide))
    refine dk_iconst (pc' := 19) hE dX10_rehearse_18 (by decide) rfl ?_
    exact dk_iret (st := []) hE hR dX10_rehearse_19 ⟨_, rfl, (fun k_ j_ h_ => rfl), trivial⟩
set_option maxHeartbeats 4000000 in
set_option maxRecDepth 20000 in
theorem ct_X10_week (l : Launch) (G : dkG) (hGd : dk_Gd G) (k s : Int) : dk_Ct l G dk_Ty yX10_week cX10_week 4 (some .int) 15 190 190 (fun av σ => av = [(4, 0), (0, k)] ∧ (GI σ) ∧ (dk_sc s) ∧ (s = σ 0 9)) (fun _ σ r_ σ' => ∃ z : Int, r_ = some (0, z) ∧ (∀ k_ j_ : Int, ¬ ((k_ = 45 ∧ j_ = 9) ∨ (k_ = 45 ∧ j_ = 10) ∨ (k_ = 45 ∧ j_ = 11) ∨ (k_ = 45 ∧ j_ = 12) ∨ (46 ≤ k_ ∧ k_ ≤ 74) ∨ (k_ = 75 ∧ j_ = 4) ∨ (k_ = 75 ∧ j_ = 5) ∨ (k_ = 75 ∧ j_ = 6) ∨ (k_ = 75 ∧ j_ = 7) ∨ (77 ≤ k_ ∧ k_ ≤ 87) ∨ k_ = 91 ∨ (92 ≤ k_ ∧ k_ ≤ 94)) → σ' k_ j_ = σ k_ j_) ∧ (True)) := by
  refine dk_enter hGd (by decide) (fun av σ hpre hok => ?_)
  obtain ⟨rfl, hG, hs, h09⟩ := hpre
  refine ⟨Nat.le_of_ble_eq_true rfl, fun E hE hR _ => ?_⟩
  have hi_k : dk_i32 k := dk_oki (hok _ (by simp))
  show dk_PJ E 0 [(4, 0), (0, k), (9, 0), (9, 0)] [] 190 σ
  refine dk_iconst (pc' := 1) hE dX10_week_0 (by decide) rfl ?_
  refine dk_istore_n (pc' := 2) (ls' := [(4, 0), (0, k), (0, 0), (9, 0)]) hE dX10_week_1 rfl rfl (by decide) rfl ?_
  have lp2 : ∀ (N_ : Nat) (i : Int) (σ2c : dkS), (2147483648 - i).toNat < N_ → ((∀ k_ j_ : Int, ¬ ((k_ = 45 ∧ j_ = 9) ∨ (k_ = 45 ∧ j_ = 10) ∨ (k_ = 45 ∧ j_ = 11) ∨ (k_ = 45 ∧ j_ = 12) ∨ (46 ≤ k_ ∧ k_ ≤ 74) ∨ (k_ = 75 ∧ j_ = 4) ∨ (k_ = 75 ∧ j_ = 5) ∨ (k_ = 75 ∧ j_ = 6) ∨ (k_ = 75 ∧ j_ = 7) ∨ (77 ≤ k_ ∧ k_ ≤ 87) ∨ k_ = 91) → σ2c k_ j_ = σ k_ j_)) → (0 ≤ i) → dk_PJ E 2 [(4, 0), (0, k), (0, i), (9, 0)] [] 190 σ2c := by
    intro N2
    induction N2 with
    | zero => intro i σ2c hm; exact absurd hm (Nat.not_lt_zero _)
    | succ N2 ih2 =>
      intro i σ2c hm2 hF2 hi0
      refine dk_iload_n (pc' := 3) hE dX10_week_2 rfl rfl rfl ?_
      refine dk_aload_n (pc' := 4) hE dX10_week_3 rfl rfl rfl ?_
      refine gf_10_8 (pc' := 7) (w := 88) hE fl_X10_75 dX10_week_4 is_0 rfl rfl ?_
      refine gf_8_6 (pc' := 10) hE fl_X10_122 dX10_week_7 is_88 rfl (fun v1 hv1 htv1 hbv1 => ?_)
      refine dk_icmp_ge (tgt := 67) (pc' := 13) hE dX10_week_10 (by decide) rfl (fun hc2 => ?_) (fun hc2 => ?_)
      · skip
        refine dk_aload_n (pc' := 68) hE dX10_week_67 rfl rfl rfl ?_
        refine gf_10_8 (pc' := 71) (w := 88) hE fl_X10_75 dX10_week_68 is_0 rfl rfl ?_
        refine dk_cV (pc' := 74) (as := []) hE lk_X10_299 (ct_X8_plan l G hGd) dX10_week_71 rfl is_88 rfl (by decide) (Nat.le_of_ble_eq_true rfl) rfl rfl (fun r4 σ3 hr4 hor4 => ?_)
        obtain ⟨v5, rfl, hfσ3, hpr4⟩ := hr4
        exact dk_iret (st := []) hE hR dX10_week_74 ⟨_, rfl, (fun k_ j_ h_ => by rw [hfσ3 k_ j_ (fun w_ => h_ (Or.inr (Or.inr (Or.inr (Or.inr (Or.inr (Or.inr (Or.inr (Or.inr (Or.inr (Or.inr (Or.inr (w_))))))))))))), hF2 k_ j_ (fun w_ => h_ (w_.elim (fun x0_ => Or.inl (x0_)) (fun y0_ => y0_.elim (fun x1_ => Or.inr (Or.inl (x1_))) (fun y1_ => y1_.elim (fun x2_ => Or.inr (Or.inr (Or.inl (x2_)))) (fun y2_ => y2_.elim (fun x3_ => Or.inr (Or.inr (Or.inr (Or.inl (x3_))))) (fun y3_ => y3_.elim (fun x4_ => Or.inr (Or.inr (Or.inr (Or.inr (Or.inl (x4_)))))) (fun y4_ => y4_.elim (fun x5_ => Or.inr (Or.inr (Or.inr (Or.inr (Or.inr (Or.inl (x5_))))))) (fun y5_ => y5_.elim (fun x6_ => Or.inr (Or.inr (Or.inr (Or.inr (Or.inr (Or.inr (Or.inl (x6_)))))))) (fun y6_ => y6_.elim (fun x7_ => Or.inr (Or.inr (Or.inr (Or.inr (Or.inr (Or.inr (Or.inr (Or.inl (x7_))))))))) (fun y7_ => y7_.elim (fun x8_ => Or.inr (Or.inr (Or.inr (Or.inr (Or.inr (Or.inr (Or.inr (Or.inr (Or.inl (x8_)))))))))) (fun y8_ => y8_.elim (fun x9_ => Or.inr (Or.inr (Or.inr (Or.inr (Or.inr (Or.inr (Or.inr (Or.inr (Or.inr (Or.inl (x9_))))))))))) (fun y9_ => Or.inr (Or.inr (Or.inr (Or.inr (Or.inr (Or.inr (Or.inr (Or.inr (Or.inr (Or.inr (Or.inl (y9_)))))))))))))))))))))))]), trivial⟩
      · skip
        refine dk_aload_n (pc' := 14) hE dX10_week_13 rfl rfl rfl ?_
        refine dk_aload_n (pc' := 15) hE dX10_week_14 rfl rfl rfl ?_
        refine gf_10_8 (pc' := 18) (w := 88) hE fl_X10_75 dX10_week_15 is_0 rfl rfl ?_
        refine gf_8_0 (pc' := 21) (w := 89) hE fl_X10_290 dX10_week_18 is_88 rfl rfl ?_
        refine dk_iload_n (pc' := 22) hE dX10_week_21 rfl rfl rfl ?_
        refine ga_53 (pc' := 23) hE dX10_week_22 is_89 (by omega) rfl (fun v6 hv6 htv6 hbv6 => ?_)
        refine dk_aload_n (pc' := 24) hE dX10_week_23 rfl rfl rfl ?_
        refine gf_10_8 (pc' := 27) (w := 88) hE fl_X10_75 dX10_week_24 is_0 rfl rfl ?_
        refine gf_8_1 (pc' := 30) (w := 90) hE fl_X10_293 dX10_week_27 is_88 rfl rfl ?_
        refine dk_iload_n (pc' := 31) hE dX10_week_30 rfl rfl rfl ?_
        refine ga_54 (pc' := 32) hE dX10_week_31 is_90 (by omega) rfl (fun v7 hv7 htv7 hbv7 => ?_)
        refine dk_iload_n (pc' := 33) hE dX10_week_32 rfl rfl rfl ?_
        have gi8 : GI σ2c := GI_fr hG (fun k_ j_ h_ => by rw [hF2 k_ j_ (fpw19_3302796400 k_ j_ h_)])
        have hz9 : σ2c 0 9 = s := by rw [hF2 0 9 (by omega), h09]
        refine dk_cV (pc' := 36) (as := [(0, v6), (0, v7), (0, k)]) hE lk_X10_245 (ct_X10_findCast l G hGd v6 v7 k s) dX10_week_33 rfl is_0 rfl (by decide) (Nat.le_of_ble_eq_true rfl) ⟨rfl, gi8, (by omega), (by omega), (by omega), (by omega)⟩ rfl (fun r11 σ10 hr11 hor11 => ?_)
        obtain ⟨v12, rfl, hfσ10, hpr11⟩ := hr11
        refine dk_istore_n (pc' := 37) (ls' := [(4, 0), (0, k), (0, i), (0, v12)]) hE dX10_week_36 rfl rfl (by decide) rfl ?_
        refine dk_aload_n (pc' := 38) hE dX10_week_37 rfl rfl rfl ?_
        refine gf_10_8 (pc' := 41) (w := 88) hE fl_X10_75 dX10_week_38 is_0 rfl rfl ?_
        refine gf_8_2 (pc' := 44) (w := 91) hE fl_X10_296 dX10_week_41 is_88 rfl rfl ?_
        refine dk_iload_n (pc' := 45) hE dX10_week_44 rfl rfl rfl ?_
        refine dk_iload_n (pc' := 46) hE dX10_week_45 rfl rfl rfl ?_
        refine dk_if_eq (tgt := 59) (pc' := 49) hE dX10_week_46 (by decide) rfl (fun hc13 => ?_) (fun hc13 => ?_)
        · skip
          refine dk_iconst (pc' := 60) hE dX10_week_59 (by decide) rfl ?_
          refine pa_55 (pc' := 61) hE dX10_week_60 is_91 (by omega) trivial rfl (fun σ14 eσ14 => ?_)
          obtain ⟨v15, hv15⟩ : ∃ z : Int, z = i + 1 := ⟨_, rfl⟩
          refine dk_iinc (pc' := 64) (ls' := [(4, 0), (0, k), (0, v15), (0, v12)]) hE dX10_week_61 rfl hv15.symm (by omega) rfl (by decide) rfl ?_
          refine dk_goto (tgt := 2) hE dX10_week_64 (by decide) ?_
          refine dk_drop (ls' := [(4, 0), (0, k), (0, v15), (9, 0)]) [true, true, true, false] rfl ?_
          exact ih2 v15 σ14 (by omega) (fun k_ j_ h_ => by rw [eσ14, dk_up_n (show ¬ (k_ = 91 ∧ j_ = i) from fun q_ => h_ (Or.inr (Or.inr (Or.inr (Or.inr (Or.inr (Or.inr (Or.inr (Or.inr (Or.inr (Or.inr (q_.1)))))))))))), hfσ10 k_ j_ (fun w_ => h_ (w_.elim (fun x0_ => Or.inl (x0_)) (fun y0_ => y0_.elim (fun x1_ => Or.inr (Or.inl (x1_))) (fun y1_ => y1_.elim (fun x2_ => Or.inr (Or.inr (Or.inl (x2_)))) (fun y2_ => y2_.elim (fun x3_ => Or.inr (Or.inr (Or.inr (Or.inl (x3_))))) (fun y3_ => y3_.elim (fun x4_ => Or.inr (Or.inr (Or.inr (Or.inr (Or.inl (x4_)))))) (fun y4_ => y4_.elim (fun x5_ => Or.inr (Or.inr (Or.inr (Or.inr (Or.inr (Or.inl (x5_))))))) (fun y5_ => y5_.elim (fun x6_ => Or.inr (Or.inr (Or.inr (Or.inr (Or.inr (Or.inr (Or.inl (x6_)))))))) (fun y6_ => y6_.elim (fun x7_ => Or.inr (Or.inr (Or.inr (Or.inr (Or.inr (Or.inr (Or.inr (Or.inl (x7_))))))))) (fun y7_ => y7_.elim (fun x8_ => Or.inr (Or.inr (Or.inr (Or.inr (Or.inr (Or.inr (Or.inr (Or.inr (Or.inl (x8_)))))))))) (fun y8_ => Or.inr (Or.inr (Or.inr (Or.inr (Or.inr (Or.inr (Or.inr (Or.inr (Or.inr (Or.inl (y8_))))))))))))))))))))), hF2 k_ j_ (fun w_ => h_ (w_.elim (fun x0_ => Or.inl (x0_)) (fun y0_ => y0_.elim (fun x1_ => Or.inr (Or.inl (x1_))) (fun y1_ => y1_.elim (fun x2_ => Or.inr (Or.inr (Or.inl (x2_)))) (fun y2_ => y2_.elim (fun x3_ => Or.inr (Or.inr (Or.inr (Or.inl (x3_))))) (fun y3_ => y3_.elim (fun x4_ => Or.inr (Or.inr (Or.inr (Or.inr (Or.inl (x4_)))))) (fun y4_ => y4_.elim (fun x5_ => Or.inr (Or.inr (Or.inr (Or.inr (Or.inr (Or.inl (x5_))))))) (fun y5_ => y5_.elim (fun x6_ => Or.inr (Or.inr (Or.inr (Or.inr (Or.inr (Or.inr (Or.inl (x6_)))))))) (fun y6_ => y6_.elim (fun x7_ => Or.inr (Or.inr (Or.inr (Or.inr (Or.inr (Or.inr (Or.inr (Or.inl (x7_))))))))) (fun y7_ => y7_.elim (fun x8_ => Or.inr (Or.inr (Or.inr (Or.inr (Or.inr (Or.inr (Or.inr (Or.inr (Or.inl (x8_)))))))))) (fun y8_ => y8_.elim (fun x9_ => Or.inr (Or.inr (Or.inr (Or.inr (Or.inr (Or.inr (Or.inr (Or.inr (Or.inr (Or.inl (x9_))))))))))) (fun y9_ => Or.inr (Or.inr (Or.inr (Or.inr (Or.inr (Or.inr (Or.inr (Or.inr (Or.inr (Or.inr (y9_))))))))))))))))))))))]) (by omega)
        · skip
          refine dk_aload_n (pc' := 50) hE dX10_week_49 rfl rfl rfl ?_
          refine gf_10_7 (pc' := 53) (w := 75) hE fl_X10_68 dX10_week_50 is_0 rfl rfl ?_
          refine dk_cV (pc' := 56) (as := []) hE lk_X10_264 (ct_X0_inCast l G hGd) dX10_week_53 rfl is_75 rfl (by decide) (Nat.le_of_ble_eq_true rfl) rfl rfl (fun r17 σ16 hr17 hor17 => ?_)
          obtain ⟨v18, rfl, hfσ16, hpr17⟩ := hr17
          have hkv18 := dk_oki (hor17 _ rfl)
          have hsσ16 : σ10 = σ16 := (funext (fun k => funext (fun j => hfσ16 k j not_false))).symm
          subst hsσ16
          refine dk_goto (tgt := 60) hE dX10_week_56 (by decide) ?_
          refine pa_55 (pc' := 61) hE dX10_week_60 is_91 (by omega) trivial rfl (fun σ19 eσ19 => ?_)
          obtain ⟨v20, hv20⟩ : ∃ z : Int, z = i + 1 := ⟨_, rfl⟩
          refine dk_iinc (pc' := 64) (ls' := [(4, 0), (0, k), (0, v20), (0, v12)]) hE dX10_week_61 rfl hv20.symm (by omega) rfl (by decide) rfl ?_
          refine dk_goto (tgt := 2) hE dX10_week_64 (by decide) ?_
          refine dk_drop (ls' := [(4, 0), (0, k), (0, v20), (9, 0)]) [true, true, true, false] rfl ?_
          exact ih2 v20 σ19 (by omega) (fun k_ j_ h_ => by rw [eσ19, dk_up_n (show ¬ (k_ = 91 ∧ j_ = i) from fun q_ => h_ (Or.inr (Or.inr (Or.inr (Or.inr (Or.inr (Or.inr (Or.inr (Or.inr (Or.inr (Or.inr (q_.1)))))))))))), hfσ10 k_ j_ (fun w_ => h_ (w_.elim (fun x0_ => Or.inl (x0_)) (fun y0_ => y0_.elim (fun x1_ => Or.inr (Or.inl (x1_))) (fun y1_ => y1_.elim (fun x2_ => Or.inr (Or.inr (Or.inl (x2_)))) (fun y2_ => y2_.elim (fun x3_ => Or.inr (Or.inr (Or.inr (Or.inl (x3_))))) (fun y3_ => y3_.elim (fun x4_ => Or.inr (Or.inr (Or.inr (Or.inr (Or.inl (x4_)))))) (fun y4_ => y4_.elim (fun x5_ => Or.inr (Or.inr (Or.inr (Or.inr (Or.inr (Or.inl (x5_))))))) (fun y5_ => y5_.elim (fun x6_ => Or.inr (Or.inr (Or.inr (Or.inr (Or.inr (Or.inr (Or.inl (x6_)))))))) (fun y6_ => y6_.elim (fun x7_ => Or.inr (Or.inr (Or.inr (Or.inr (Or.inr (Or.inr (Or.inr (Or.inl (x7_))))))))) (fun y7_ => y7_.elim (fun x8_ => Or.inr (Or.inr (Or.inr (Or.inr (Or.inr (Or.inr (Or.inr (Or.inr (Or.inl (x8_)))))))))) (fun y8_ => Or.inr (Or.inr (Or.inr (Or.inr (Or.inr (Or.inr (Or.inr (Or.inr (Or.inr (Or.inl (y8_))))))))))))))))))))), hF2 k_ j_ (fun w_ => h_ (w_.elim (fun x0_ => Or.inl (x0_)) (fun y0_ => y0_.elim (fun x1_ => Or.inr (Or.inl (x1_))) (fun y1_ => y1_.elim (fun x2_ => Or.inr (Or.inr (Or.inl (x2_)))) (fun y2_ => y2_.elim (fun x3_ => Or.inr (Or.inr (Or.inr (Or.inl (x3_))))) (fun y3_ => y3_.elim (fun x4_ => Or.inr (Or.inr (Or.inr (Or.inr (Or.inl (x4_)))))) (fun y4_ => y4_.elim (fun x5_ => Or.inr (Or.inr (Or.inr (Or.inr (Or.inr (Or.inl (x5_))))))) (fun y5_ => y5_.elim (fun x6_ => Or.inr (Or.inr (Or.inr (Or.inr (Or.inr (Or.inr (Or.inl (x6_)))))))) (fun y6_ => y6_.elim (fun x7_ => Or.inr (Or.inr (Or.inr (Or.inr (Or.inr (Or.inr (Or.inr (Or.inl (x7_))))))))) (fun y7_ => y7_.elim (fun x8_ => Or.inr (Or.inr (Or.inr (Or.inr (Or.inr (Or.inr (Or.inr (Or.inr (Or.inl (x8_)))))))))) (fun y8_ => y8_.elim (fun x9_ => Or.inr (Or.inr (Or.inr (Or.inr (Or.inr (Or.inr (Or.inr (Or.inr (Or.inr (Or.inl (x9_))))))))))) (fun y9_ => Or.inr (Or.inr (Or.inr (Or.inr (Or.inr (Or.inr (Or.inr (Or.inr (Or.inr (Or.inr (y9_))))))))))))))))))))))]) (by omega)
  exact lp2 _ 0 σ (Nat.lt_succ_self _) (fun k_ j_ h_ => rfl) (by omega)
set_option maxHeartbeats 4000000 in
set_option maxRecDepth 20000 in
theorem ct_X10_hour (l : Launch) (G : dkG) (hGd : dk_Gd G) (a k s : Int) : dk_Ct l G dk_Ty yX10_hour cX10_hour 3 (some .int) 16 190 190 (fun av σ => av = [(4, 0), (0, a), (0, k)] ∧ (GI σ) ∧ (dk_sc s) ∧ (s = σ 0 9)) (fun _ σ r_ σ' => ∃ z : Int, r_ = some (0, z) ∧ (∀ k_ j_ : Int, ¬ ((k_ = 45 ∧ j_ = 9) ∨ (k_ = 45 ∧ j_ = 10) ∨ (k_ = 45 ∧ j_ = 11) ∨ (k_ = 45 ∧ j_ = 12) ∨ (46 ≤ k_ ∧ k_ ≤ 74) ∨ (k_ = 75 ∧ j_ = 4) ∨ (k_ = 75 ∧ j_ = 5) ∨ (k_ = 75 ∧ j_ = 6) ∨ (k_ = 75 ∧ j_ = 7) ∨ (77 ≤ k_ ∧ k_ ≤ 87) ∨ k_ = 91 ∨ (92 ≤ k_ ∧ k_ ≤ 94)) → σ' k_ j_ = σ k_ j_) ∧ (True)) := by
  refine dk_enter hGd (by decide) (fun av σ hpre hok => ?_)
  obtain ⟨rfl, hG, hs, h09⟩ := hpre
  refine ⟨Nat.le_of_ble_eq_true rfl, fun E hE hR _ => ?_⟩
  have hi_a : dk_i32 a := dk_oki (hok _ (by simp))
  have hi_k : dk_i32 k := dk_oki (hok _ (by simp))
  show dk_PJ E 0 [(4, 0), (0, a), (0, k)] [] 190 σ
  refine dk_iload_n (pc' := 1) hE dX10_hour_0 rfl rfl rfl ?_
  refine dk_if_lt (tgt := 15) (pc' := 4) hE dX10_hour_1 (by decide) rfl (fun hc1 => ?_) (fun hc1 => ?_)
  · skip
    refine dk_iconst (pc' := 16) hE dX10_hour_15 (by decide) rfl ?_
    exact dk_iret (st := []) hE hR dX10_hour_16 ⟨_, rfl, (fun k_ j_ h_ => rfl), trivial⟩
  · skip
    refine dk_iload_n (pc' := 5) hE dX10_hour_4 rfl rfl rfl ?_
    refine dk_aload_n (pc' := 6) hE dX10_hour_5 rfl rfl rfl ?_
    refine gf_10_8 (pc' := 9) (w := 88) hE fl_X10_75 dX10_hour_6 is_0 rfl rfl ?_
    refine gf_8_6 (pc' := 12) hE fl_X10_122 dX10_hour_9 is_88 rfl (fun v2 hv2 htv2 hbv2 => ?_)
    refine dk_icmp_lt (tgt := 17) (pc' := 15) hE dX10_hour_12 (by decide) rfl (fun hc3 => ?_) (fun hc3 => ?_)
    · skip
      refine dk_aload_n (pc' := 18) hE dX10_hour_17 rfl rfl rfl ?_
      refine dk_iload_n (pc' := 19) hE dX10_hour_18 rfl rfl rfl ?_
      have hz4 : σ 0 9 = s := by rw [h09]
      refine dk_cV (pc' := 22) (as := [(0, k)]) hE lk_X10_302 (ct_X10_week l G hGd k s) dX10_hour_19 rfl is_0 rfl (by decide) (Nat.le_of_ble_eq_true rfl) ⟨rfl, hG, (by omega), (by omega)⟩ rfl (fun r6 σ5 hr6 hor6 => ?_)
      obtain ⟨v7, rfl, hfσ5, hpr6⟩ := hr6
      have hkv7 := dk_oki (hor6 _ rfl)
      refine dk_pop (pc' := 23) hE dX10_hour_22 (show (0 : Nat) ≠ 3 by decide) rfl ?_
      refine dk_aload_n (pc' := 24) hE dX10_hour_23 rfl rfl rfl ?_
      refine gf_10_8 (pc' := 27) (w := 88) hE fl_X10_75 dX10_hour_24 is_0 rfl rfl ?_
      refine gf_8_3 (pc' := 30) (w := 92) hE fl_X10_305 dX10_hour_27 is_88 rfl rfl ?_
      refine dk_iload_n (pc' := 31) hE dX10_hour_30 rfl rfl rfl ?_
      refine ga_56 (pc' := 32) hE dX10_hour_31 is_92 (by omega) rfl (fun v8 hv8 htv8 hbv8 => ?_)
      exact dk_iret (st := []) hE hR dX10_hour_32 ⟨_, rfl, (fun k_ j_ h_ => by rw [hfσ5 k_ j_ (fun w_ => h_ (w_.elim (fun x0_ => Or.inl (x0_)) (fun y0_ => y0_.elim (fun x1_ => Or.inr (Or.inl (x1_))) (fun y1_ => y1_.elim (fun x2_ => Or.inr (Or.inr (Or.inl (x2_)))) (fun y2_ => y2_.elim (fun x3_ => Or.inr (Or.inr (Or.inr (Or.inl (x3_))))) (fun y3_ => y3_.elim (fun x4_ => Or.inr (Or.inr (Or.inr (Or.inr (Or.inl (x4_)))))) (fun y4_ => y4_.elim (fun x5_ => Or.inr (Or.inr (Or.inr (Or.inr (Or.inr (Or.inl (x5_))))))) (fun y5_ => y5_.elim (fun x6_ => Or.inr (Or.inr (Or.inr (Or.inr (Or.inr (Or.inr (Or.inl (x6_)))))))) (fun y6_ => y6_.elim (fun x7_ => Or.inr (Or.inr (Or.inr (Or.inr (Or.inr (Or.inr (Or.inr (Or.inl (x7_))))))))) (fun y7_ => y7_.elim (fun x8_ => Or.inr (Or.inr (Or.inr (Or.inr (Or.inr (Or.inr (Or.inr (Or.inr (Or.inl (x8_)))))))))) (fun y8_ => y8_.elim (fun x9_ => Or.inr (Or.inr (Or.inr (Or.inr (Or.inr (Or.inr (Or.inr (Or.inr (Or.inr (Or.inl (x9_))))))))))) (fun y9_ => y9_.elim (fun x10_ => Or.inr (Or.inr (Or.inr (Or.inr (Or.inr (Or.inr (Or.inr (Or.inr (Or.inr (Or.inr (Or.inl (x10_)))))))))))) (fun y10_ => Or.inr (Or.inr (Or.inr (Or.inr (Or.inr (Or.inr (Or.inr (Or.inr (Or.inr (Or.inr (Or.inr (y10_))))))))))))))))))))))))]), trivial⟩
    · skip
      refine dk_iconst (pc' := 16) hE dX10_hour_15 (by decide) rfl ?_
      exact dk_iret (st := []) hE hR dX10_hour_16 ⟨_, rfl, (fun k_ j_ h_ => rfl), trivial⟩
set_option maxHeartbeats 4000000 in
set_option maxRecDepth 20000 in
theorem ct_X10_live (l : Launch) (G : dkG) (hGd : dk_Gd G) (a d k s : Int) : dk_Ct l G dk_Ty yX10_live cX10_live 4 (some .int) 5 190 190 (fun av σ => av = [(4, 0), (0, a), (0, d), (0, k)] ∧ (GI σ) ∧ (dk_sc s) ∧ (s = σ 0 9)) (fun _ σ r_ σ' => ∃ z : Int, r_ = some (0, z) ∧ (∀ k_ j_ : Int, ¬ ((k_ = 45 ∧ j_ = 9) ∨ (k_ = 45 ∧ j_ = 10) ∨ (k_ = 45 ∧ j_ = 11) ∨ (k_ = 45 ∧ j_ = 12) ∨ (46 ≤ k_ ∧ k_ ≤ 74)) → σ' k_ j_ = σ k_ j_) ∧ (True)) := by
  refine dk_enter hGd (by decide) (fun av σ hpre hok => ?_)
  obtain ⟨rfl, hG, hs, h09⟩ := hpre
  refine ⟨Nat.le_of_ble_eq_true rfl, fun E hE hR _ => ?_⟩
  have hi_a : dk_i32 a := dk_oki (hok _ (by simp))
  have hi_d : dk_i32 d := dk_oki (hok _ (by simp))
  have hi_k : dk_i32 k := dk_oki (hok _ (by simp))
  show dk_PJ E 0 [(4, 0), (0, a), (0, d), (0, k)] [] 190 σ
  refine dk_iload_n (pc' := 1) hE dX10_live_0 rfl rfl rfl ?_
  refine dk_cS (pc' := 4) (as := [(0, d)]) hE lk_X10_128 (ct_X10_isDay l G hGd d) dX10_live_1 rfl rfl (by decide) (Nat.le_of_ble_eq_true rfl) rfl rfl (fun r2 σ1 hr2 hor2 => ?_)
  obtain ⟨v3, rfl, hfσ1, hpr2⟩ := hr2
  have hsσ1 : σ = σ1 := (funext (fun k => funext (fun j => hfσ1 k j not_false))).symm
  subst hsσ1
  rcases hpr2 with ⟨rfl, hpr2⟩ | ⟨rfl, hpr2⟩
  · skip
    refine dk_if_eq (tgt := 24) (pc' := 7) hE dX10_live_4 (by decide) rfl (fun hc4 => absurd hc4 (by decide)) (fun hc4 => ?_)
    refine dk_iload_n (pc' := 8) hE dX10_live_7 rfl rfl rfl ?_
    refine dk_if_lt (tgt := 24) (pc' := 11) hE dX10_live_8 (by decide) rfl (fun hc5 => ?_) (fun hc5 => ?_)
    · skip
      refine dk_iconst (pc' := 25) hE dX10_live_24 (by decide) rfl ?_
      exact dk_iret (st := []) hE hR dX10_live_25 ⟨_, rfl, (fun k_ j_ h_ => rfl), trivial⟩
    · skip
      refine dk_iload_n (pc' := 12) hE dX10_live_11 rfl rfl rfl ?_
      refine dk_iconst (pc' := 13) hE dX10_live_12 (by decide) rfl ?_
      refine dk_aload_n (pc' := 14) hE dX10_live_13 rfl rfl rfl ?_
      refine gf_10_9 (pc' := 17) hE fl_X10_82 dX10_live_14 is_0 rfl (fun v6 hv6 htv6 hbv6 => ?_)
      have hq6 : s = v6 := (show v6 = s by rw [hv6, h09]).symm
      subst hq6
      clear htv6 hbv6
      refine gf_4_12 (pc' := 20) hE fl_X10_308 dX10_live_17 (sc_is (by omega)) rfl (fun v7 hv7 htv7 hbv7 => ?_)
      refine dk_ishl (pc' := 21) hE dX10_live_20 rfl (fun v8 hv8 ev8 => ?_)
      refine dk_icmp_lt (tgt := 26) (pc' := 24) hE dX10_live_21 (by decide) rfl (fun hc9 => ?_) (fun hc9 => ?_)
      · skip
        refine dk_aload_n (pc' := 27) hE dX10_live_26 rfl rfl rfl ?_
        refine dk_iload_n (pc' := 28) hE dX10_live_27 rfl rfl rfl ?_
        refine dk_iload_n (pc' := 29) hE dX10_live_28 rfl rfl rfl ?_
        have hz10 : σ 0 9 = s := by rw [hv6]
        refine dk_cV (pc' := 32) (as := [(0, d), (0, k)]) hE lk_X10_225 (ct_X10_openDay l G hGd d k s) dX10_live_29 rfl is_0 rfl (by decide) (Nat.le_of_ble_eq_true rfl) ⟨rfl, hG, (by omega), (by omega), (by omega)⟩ rfl (fun r12 σ11 hr12 hor12 => ?_)
        obtain ⟨rfl, hfσ11, hpr12⟩ := hr12
        refine dk_aload_n (pc' := 33) hE dX10_live_32 rfl rfl rfl ?_
        refine gf_10_6 (pc' := 36) (w := 45) hE fl_X10_61 dX10_live_33 is_0 rfl rfl ?_
        refine dk_iload_n (pc' := 37) hE dX10_live_36 rfl rfl rfl ?_
        have gi13 : GI σ11 := GI_fr hG (fun k_ j_ h_ => by rw [hfσ11 k_ j_ (fpw19_3971855425 k_ j_ h_)])
        have hz14 : σ11 45 9 = s := by rw [(hpr12).symm]
        refine dk_cV (pc' := 40) (as := [(0, a)]) hE lk_X10_311 (ct_X6_living l G hGd a s) dX10_live_37 rfl is_45 rfl (by decide) (Nat.le_of_ble_eq_true rfl) ⟨rfl, gi13, (by omega), (by omega)⟩ rfl (fun r16 σ15 hr16 hor16 => ?_)
        obtain ⟨v17, rfl, hfσ15, hpr16⟩ := hr16
        have hkv17 := dk_oki (hor16 _ rfl)
        have hsσ15 : σ11 = σ15 := (funext (fun k => funext (fun j => hfσ15 k j not_false))).symm
        subst hsσ15
        exact dk_iret (st := []) hE hR dX10_live_40 ⟨_, rfl, (fun k_ j_ h_ => by rw [hfσ11 k_ j_ (fun w_ => h_ (w_.elim (fun x0_ => Or.inl (x0_)) (fun y0_ => y0_.elim (fun x1_ => Or.inr (Or.inl (x1_))) (fun y1_ => y1_.elim (fun x2_ => Or.inr (Or.inr (Or.inl (x2_)))) (fun y2_ => y2_.elim (fun x3_ => Or.inr (Or.inr (Or.inr (Or.inl (x3_))))) (fun y3_ => Or.inr (Or.inr (Or.inr (Or.inr (y3_))))))))))]), trivial⟩
      · skip
        refine dk_iconst (pc' := 25) hE dX10_live_24 (by decide) rfl ?_
        exact dk_iret (st := []) hE hR dX10_live_25 ⟨_, rfl, (fun k_ j_ h_ => rfl), trivial⟩
  · skip
    refine dk_if_eq (tgt := 24) (pc' := 7) hE dX10_live_4 (by decide) rfl (fun hc18 => ?_) (fun hc18 => absurd hc18 (by decide))
    refine dk_iconst (pc' := 25) hE dX10_live_24 (by decide) rfl ?_
    exact dk_iret (st := []) hE hR dX10_live_25 ⟨_, rfl, (fun k_ j_ h_ => rfl), trivial⟩
set_option maxHeartbeats 4000000 in
set_option maxRecDepth 20000 in
theorem ct_X10_note (l : Launch) (G : dkG) (hGd : dk_Gd G) (a d k s : Int) : dk_Ct l G dk_Ty yX10_note cX10_note 4 (some .int) 6 190 190 (fun av σ => av = [(4, 0), (0, a), (0, d), (0, k)] ∧ (GI σ) ∧ (dk_sc s) ∧ (s = σ 0 9)) (fun _ σ r_ σ' => ∃ z : Int, r_ = some (0, z) ∧ (∀ k_ j_ : Int, ¬ ((k_ = 45 ∧ j_ = 9) ∨ (k_ = 45 ∧ j_ = 10) ∨ (k_ = 45 ∧ j_ = 11) ∨ (k_ = 45 ∧ j_ = 12) ∨ (46 ≤ k_ ∧ k_ ≤ 74)) → σ' k_ j_ = σ k_ j_) ∧ (True)) := by
  refine dk_enter hGd (by decide) (fun av σ hpre hok => ?_)
  obtain ⟨rfl, hG, hs, h09⟩ := hpre
  refine ⟨Nat.le_of_ble_eq_true rfl, fun E hE hR _ => ?_⟩
  have hi_a : dk_i32 a := dk_oki (hok _ (by simp))
  have hi_d : dk_i32 d := dk_oki (hok _ (by simp))
  have hi_k : dk_i32 k := dk_oki (hok _ (by simp))
  show dk_PJ E 0 [(4, 0), (0, a), (0, d), (0, k)] [] 190 σ
  refine dk_iload_n (pc' := 1) hE dX10_note_0 rfl rfl rfl ?_
  refine dk_cS (pc' := 4) (as := [(0, d)]) hE lk_X10_128 (ct_X10_isDay l G hGd d) dX10_note_1 rfl rfl (by decide) (Nat.le_of_ble_eq_true rfl) rfl rfl (fun r2 σ1 hr2 hor2 => ?_)
  obtain ⟨v3, rfl, hfσ1, hpr2⟩ := hr2
  have hsσ1 : σ = σ1 := (funext (fun k => funext (fun j => hfσ1 k j not_false))).symm
  subst hsσ1
  rcases hpr2 with ⟨rfl, hpr2⟩ | ⟨rfl, hpr2⟩
  · skip
    refine dk_if_eq (tgt := 17) (pc' := 7) hE dX10_note_4 (by decide) rfl (fun hc4 => absurd hc4 (by decide)) (fun hc4 => ?_)
    refine dk_iload_n (pc' := 8) hE dX10_note_7 rfl rfl rfl ?_
    refine dk_if_lt (tgt := 17) (pc' := 11) hE dX10_note_8 (by decide) rfl (fun hc5 => ?_) (fun hc5 => ?_)
    · skip
      refine dk_iconst (pc' := 18) hE dX10_note_17 (by decide) rfl ?_
      exact dk_iret (st := []) hE hR dX10_note_18 ⟨_, rfl, (fun k_ j_ h_ => rfl), trivial⟩
    · skip
      refine dk_iload_n (pc' := 12) hE dX10_note_11 rfl rfl rfl ?_
      refine dk_bipush (pc' := 14) hE dX10_note_12 (by decide) rfl ?_
      refine dk_icmp_le (tgt := 19) (pc' := 17) hE dX10_note_14 (by decide) rfl (fun hc6 => ?_) (fun hc6 => ?_)
      · skip
        refine dk_aload_n (pc' := 20) hE dX10_note_19 rfl rfl rfl ?_
        refine dk_iload_n (pc' := 21) hE dX10_note_20 rfl rfl rfl ?_
        refine dk_iload_n (pc' := 22) hE dX10_note_21 rfl rfl rfl ?_
        have hz7 : σ 0 9 = s := by rw [h09]
        refine dk_cV (pc' := 25) (as := [(0, d), (0, k)]) hE lk_X10_225 (ct_X10_openDay l G hGd d k s) dX10_note_22 rfl is_0 rfl (by decide) (Nat.le_of_ble_eq_true rfl) ⟨rfl, hG, (by omega), (by omega), (by omega)⟩ rfl (fun r9 σ8 hr9 hor9 => ?_)
        obtain ⟨rfl, hfσ8, hpr9⟩ := hr9
        refine dk_aload_n (pc' := 26) hE dX10_note_25 rfl rfl rfl ?_
        refine gf_10_6 (pc' := 29) (w := 45) hE fl_X10_61 dX10_note_26 is_0 rfl rfl ?_
        refine dk_iload_n (pc' := 30) hE dX10_note_29 rfl rfl rfl ?_
        have gi10 : GI σ8 := GI_fr hG (fun k_ j_ h_ => by rw [hfσ8 k_ j_ (fpw19_3971855425 k_ j_ h_)])
        have hz11 : σ8 45 9 = s := by rw [(hpr9).symm]
        refine dk_cV (pc' := 33) (as := [(0, a)]) hE lk_X10_314 (ct_X6_firstNoted l G hGd a s) dX10_note_30 rfl is_45 rfl (by decide) (Nat.le_of_ble_eq_true rfl) ⟨rfl, gi10, (by omega), (by omega)⟩ rfl (fun r13 σ12 hr13 hor13 => ?_)
        obtain ⟨v14, rfl, hfσ12, hpr13⟩ := hr13
        have hkv14 := dk_oki (hor13 _ rfl)
        have hsσ12 : σ8 = σ12 := (funext (fun k => funext (fun j => hfσ12 k j not_false))).symm
        subst hsσ12
        exact dk_iret (st := []) hE hR dX10_note_33 ⟨_, rfl, (fun k_ j_ h_ => by rw [hfσ8 k_ j_ (fun w_ => h_ (w_.elim (fun x0_ => Or.inl (x0_)) (fun y0_ => y0_.elim (fun x1_ => Or.inr (Or.inl (x1_))) (fun y1_ => y1_.elim (fun x2_ => Or.inr (Or.inr (Or.inl (x2_)))) (fun y2_ => y2_.elim (fun x3_ => Or.inr (Or.inr (Or.inr (Or.inl (x3_))))) (fun y3_ => Or.inr (Or.inr (Or.inr (Or.inr (y3_))))))))))]), trivial⟩
      · skip
        refine dk_iconst (pc' := 18) hE dX10_note_17 (by decide) rfl ?_
        exact dk_iret (st := []) hE hR dX10_note_18 ⟨_, rfl, (fun k_ j_ h_ => rfl), trivial⟩
  · skip
    refine dk_if_eq (tgt := 17) (pc' := 7) hE dX10_note_4 (by decide) rfl (fun hc15 => ?_) (fun hc15 => absurd hc15 (by decide))
    refine dk_iconst (pc' := 18) hE dX10_note_17 (by decide) rfl ?_
    exact dk_iret (st := []) hE hR dX10_note_18 ⟨_, rfl, (fun k_ j_ h_ => rfl), trivial⟩
set_option maxHeartbeats 4000000 in
set_option maxRecDepth 20000 in
theorem ct_X10_about (l : Launch) (G : dkG) (hGd : dk_Gd G) (a s : Int) : dk_Ct l G dk_Ty yX10_about cX10_about 2 (some .int) 1 190 190 (fun av σ => av = [(4, 0), (0, a)] ∧ (GI σ) ∧ (dk_sc s) ∧ (s = σ 0 9)) (fun _ σ r_ σ' => ∃ z : Int, r_ = some (0, z) ∧ (∀ k_ j_ : Int, ¬ (False) → σ' k_ j_ = σ k_ j_) ∧ (True)) := by
  refine dk_enter hGd (by decide) (fun av σ hpre hok => ?_)
  obtain ⟨rfl, hG, hs, h09⟩ := hpre
  refine ⟨Nat.le_of_ble_eq_true rfl, fun E hE hR _ => ?_⟩
  have hi_a : dk_i32 a := dk_oki (hok _ (by simp))
  show dk_PJ E 0 [(4, 0), (0, a)] [] 190 σ
  refine dk_iload_n (pc' := 1) hE dX10_about_0 rfl rfl rfl ?_
  refine dk_table (tgs := [60, 68, 76, 81, 89, 94, 102, 110, 118, 126, 134]) (td := 142) hE dX10_about_1 (by decide) (by decide) (by decide) (fun hc1 => ?_) (fun i2 t3 q4 hc1 => ?_)
  · skip
    refine dk_iconst (pc' := 143) hE dX10_about_142 (by decide) rfl ?_
    exact dk_iret (st := []) hE hR dX10_about_143 ⟨_, rfl, (fun k_ j_ h_ => rfl), trivial⟩
  · have i2l : i2 < 11 := (List.getElem?_eq_some_iff.mp q4).1
    rcases (show i2 = 0 ∨ i2 = 1 ∨ i2 = 2 ∨ i2 = 3 ∨ i2 = 4 ∨ i2 = 5 ∨ i2 = 6 ∨ i2 = 7 ∨ i2 = 8 ∨ i2 = 9 ∨ i2 = 10 by omega) with rfl | rfl | rfl | rfl | rfl | rfl | rfl | rfl | rfl | rfl | rfl
    · cases q4
      refine dk_aload_n (pc' := 61) hE dX10_about_60 rfl rfl rfl ?_
      refine gf_10_9 (pc' := 64) hE fl_X10_82 dX10_about_61 is_0 rfl (fun v5 hv5 htv5 hbv5 => ?_)
      have hq5 : s = v5 := (show v5 = s by rw [hv5, h09]).symm
      subst hq5
      clear htv5 hbv5
      refine gf_4_11 (pc' := 67) hE fl_X10_317 dX10_about_64 (sc_is (by omega)) rfl (fun v6 hv6 htv6 hbv6 => ?_)
      exact dk_iret (st := []) hE hR dX10_about_67 ⟨_, rfl, (fun k_ j_ h_ => rfl), trivial⟩
    · cases q4
      refine dk_aload_n (pc' := 69) hE dX10_about_68 rfl rfl rfl ?_
      refine gf_10_9 (pc' := 72) hE fl_X10_82 dX10_about_69 is_0 rfl (fun v7 hv7 htv7 hbv7 => ?_)
      have hq7 : s = v7 := (show v7 = s by rw [hv7, h09]).symm
      subst hq7
      clear htv7 hbv7
      refine gf_4_12 (pc' := 75) hE fl_X10_308 dX10_about_72 (sc_is (by omega)) rfl (fun v8 hv8 htv8 hbv8 => ?_)
      exact dk_iret (st := []) hE hR dX10_about_75 ⟨_, rfl, (fun k_ j_ h_ => rfl), trivial⟩
    · cases q4
      refine dk_aload_n (pc' := 77) hE dX10_about_76 rfl rfl rfl ?_
      refine gf_10_12 (pc' := 80) hE fl_X10_93 dX10_about_77 is_0 rfl (fun v9 hv9 htv9 hbv9 => ?_)
      exact dk_iret (st := []) hE hR dX10_about_80 ⟨_, rfl, (fun k_ j_ h_ => rfl), trivial⟩
    · cases q4
      refine dk_aload_n (pc' := 82) hE dX10_about_81 rfl rfl rfl ?_
      refine gf_10_5 (pc' := 85) (w := 37) hE fl_X10_54 dX10_about_82 is_0 rfl rfl ?_
      refine gf_1_7 (pc' := 88) hE fl_X10_119 dX10_about_85 is_37 rfl (fun v10 hv10 htv10 hbv10 => ?_)
      exact dk_iret (st := []) hE hR dX10_about_88 ⟨_, rfl, (fun k_ j_ h_ => rfl), trivial⟩
    · cases q4
      refine dk_aload_n (pc' := 90) hE dX10_about_89 rfl rfl rfl ?_
      refine gf_10_11 (pc' := 93) hE fl_X10_89 dX10_about_90 is_0 rfl (fun v11 hv11 htv11 hbv11 => ?_)
      exact dk_iret (st := []) hE hR dX10_about_93 ⟨_, rfl, (fun k_ j_ h_ => rfl), trivial⟩
    · cases q4
      refine dk_aload_n (pc' := 95) hE dX10_about_94 rfl rfl rfl ?_
      refine gf_10_8 (pc' := 98) (w := 88) hE fl_X10_75 dX10_about_95 is_0 rfl rfl ?_
      refine gf_8_6 (pc' := 101) hE fl_X10_122 dX10_about_98 is_88 rfl (fun v12 hv12 htv12 hbv12 => ?_)
      exact dk_iret (st := []) hE hR dX10_about_101 ⟨_, rfl, (fun k_ j_ h_ => rfl), trivial⟩
    · cases q4
      refine dk_aload_n (pc' := 103) hE dX10_about_102 rfl rfl rfl ?_
      refine gf_10_5 (pc' := 106) (w := 37) hE fl_X10_54 dX10_about_103 is_0 rfl rfl ?_
      refine gf_1_8 (pc' := 109) hE fl_X10_206 dX10_about_106 is_37 rfl (fun v13 hv13 htv13 hbv13 => ?_)
      exact dk_iret (st := []) hE hR dX10_about_109 ⟨_, rfl, (fun k_ j_ h_ => rfl), trivial⟩
    · cases q4
      refine dk_aload_n (pc' := 111) hE dX10_about_110 rfl rfl rfl ?_
      refine gf_10_0 (pc' := 114) (w := 1) hE fl_X10_10 dX10_about_111 is_0 rfl rfl ?_
      refine gf_7_1 (pc' := 117) hE fl_X10_102 dX10_about_114 is_1 rfl (fun v14 hv14 htv14 hbv14 => ?_)
      exact dk_iret (st := []) hE hR dX10_about_117 ⟨_, rfl, (fun k_ j_ h_ => rfl), trivial⟩
    · cases q4
      refine dk_aload_n (pc' := 119) hE dX10_about_118 rfl rfl rfl ?_
      refine gf_10_9 (pc' := 122) hE fl_X10_82 dX10_about_119 is_0 rfl (fun v15 hv15 htv15 hbv15 => ?_)
      have hq15 : s = v15 := (show v15 = s by rw [hv15, h09]).symm
      subst hq15
      clear htv15 hbv15
      refine gf_4_14 (pc' := 125) hE fl_X10_320 dX10_about_122 (sc_is (by omega)) rfl (fun v16 hv16 htv16 hbv16 => ?_)
      exact dk_iret (st := []) hE hR dX10_about_125 ⟨_, rfl, (fun k_ j_ h_ => rfl), trivial⟩
    · cases q4
      refine dk_aload_n (pc' := 127) hE dX10_about_126 rfl rfl rfl ?_
      refine gf_10_9 (pc' := 130) hE fl_X10_82 dX10_about_127 is_0 rfl (fun v17 hv17 htv17 hbv17 => ?_)
      have hq17 : s = v17 := (show v17 = s by rw [hv17, h09]).symm
      subst hq17
      clear htv17 hbv17
      refine gf_4_15 (pc' := 133) hE fl_X10_323 dX10_about_130 (sc_is (by omega)) rfl (fun v18 hv18 htv18 hbv18 => ?_)
      exact dk_iret (st := []) hE hR dX10_about_133 ⟨_, rfl, (fun k_ j_ h_ => rfl), trivial⟩
    · cases q4
      refine dk_aload_n (pc' := 135) hE dX10_about_134 rfl rfl rfl ?_
      refine gf_10_9 (pc' := 138) hE fl_X10_82 dX10_about_135 is_0 rfl (fun v19 hv19 htv19 hbv19 => ?_)
      have hq19 : s = v19 := (show v19 = s by rw [hv19, h09]).symm
      subst hq19
      clear htv19 hbv19
      refine gf_4_16 (pc' := 141) hE fl_X10_326 dX10_about_138 (sc_is (by omega)) rfl (fun v20 hv20 htv20 hbv20 => ?_)
      exact dk_iret (st := []) hE hR dX10_about_141 ⟨_, rfl, (fun k_ j_ h_ => rfl), trivial⟩
