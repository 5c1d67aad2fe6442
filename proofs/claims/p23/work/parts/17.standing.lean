theorem fpn17_45 {k j : Int} (h : k = 45) : ¬ sFP k j := by subst h; omega
theorem fpw17_1850366238 : ∀ k_ j_ : Int, sFP k_ j_ → ¬ ((46 ≤ k_ ∧ k_ ≤ 74)) := by intro k_ j_ h; omega
set_option maxHeartbeats 4000000 in
set_option maxRecDepth 20000 in
theorem ct_J6_bitCount_0f7a4 (l : Launch) (G : dkG) (hGd : dk_Gd G) (a : Int) : dk_Ct l G dk_Ty yJ6_bitCount_0f7a4 cJ6_bitCount_0f7a4 1 (some .int) 1 190 190 (fun av σ => av = [(0, a)]) (fun _ σ r_ σ' => ∃ z : Int, r_ = some (0, z) ∧ (∀ k_ j_ : Int, ¬ (False) → σ' k_ j_ = σ k_ j_) ∧ (0 ≤ z ∧ z ≤ 63)) := by
  refine dk_enter hGd (by decide) (fun av σ hpre hok => ?_)
  subst hpre
  refine ⟨Nat.le_of_ble_eq_true rfl, fun E hE hR _ => ?_⟩
  have hi_a : dk_i32 a := dk_oki (hok _ (by simp))
  show dk_PJ E 0 [(0, a)] [] 190 σ
  refine dk_iload_n (pc' := 1) hE dJ6_bitCount_0f7a4_0 rfl rfl rfl ?_
  refine dk_iload_n (pc' := 2) hE dJ6_bitCount_0f7a4_1 rfl rfl rfl ?_
  refine dk_iconst (pc' := 3) hE dJ6_bitCount_0f7a4_2 (by decide) rfl ?_
  refine dk_iushr (pc' := 4) hE dJ6_bitCount_0f7a4_3 rfl (fun v1 hv1 => ?_)
  refine dk_ldcw (pc' := 7) hE dJ6_bitCount_0f7a4_4 cs_J6_265 (by decide) rfl ?_
  refine dk_iand (pc' := 8) hE dJ6_bitCount_0f7a4_7 rfl (fun v2 hv2 ev2 => ?_)
  refine dk_isubW (pc' := 9) hE dJ6_bitCount_0f7a4_8 rfl (fun v3 hv3 _ => ?_)
  refine dk_istore_n (pc' := 10) (ls' := [(0, v3)]) hE dJ6_bitCount_0f7a4_9 rfl rfl (by decide) rfl ?_
  refine dk_iload_n (pc' := 11) hE dJ6_bitCount_0f7a4_10 rfl rfl rfl ?_
  refine dk_ldcw (pc' := 14) hE dJ6_bitCount_0f7a4_11 cs_J6_266 (by decide) rfl ?_
  refine dk_iand (pc' := 15) hE dJ6_bitCount_0f7a4_14 rfl (fun v4 hv4 ev4 => ?_)
  refine dk_iload_n (pc' := 16) hE dJ6_bitCount_0f7a4_15 rfl rfl rfl ?_
  refine dk_iconst (pc' := 17) hE dJ6_bitCount_0f7a4_16 (by decide) rfl ?_
  refine dk_iushr (pc' := 18) hE dJ6_bitCount_0f7a4_17 rfl (fun v5 hv5 => ?_)
  refine dk_ldcw (pc' := 21) hE dJ6_bitCount_0f7a4_18 cs_J6_266 (by decide) rfl ?_
  refine dk_iand (pc' := 22) hE dJ6_bitCount_0f7a4_21 rfl (fun v6 hv6 ev6 => ?_)
  refine dk_iaddW (pc' := 23) hE dJ6_bitCount_0f7a4_22 rfl (fun v7 hv7 _ => ?_)
  refine dk_istore_n (pc' := 24) (ls' := [(0, v7)]) hE dJ6_bitCount_0f7a4_23 rfl rfl (by decide) rfl ?_
  refine dk_iload_n (pc' := 25) hE dJ6_bitCount_0f7a4_24 rfl rfl rfl ?_
  refine dk_iload_n (pc' := 26) hE dJ6_bitCount_0f7a4_25 rfl rfl rfl ?_
  refine dk_iconst (pc' := 27) hE dJ6_bitCount_0f7a4_26 (by decide) rfl ?_
  refine dk_iushr (pc' := 28) hE dJ6_bitCount_0f7a4_27 rfl (fun v8 hv8 => ?_)
  refine dk_iaddW (pc' := 29) hE dJ6_bitCount_0f7a4_28 rfl (fun v9 hv9 _ => ?_)
  refine dk_ldcw (pc' := 32) hE dJ6_bitCount_0f7a4_29 cs_J6_267 (by decide) rfl ?_
  refine dk_iand (pc' := 33) hE dJ6_bitCount_0f7a4_32 rfl (fun v10 hv10 ev10 => ?_)
  refine dk_istore_n (pc' := 34) (ls' := [(0, v10)]) hE dJ6_bitCount_0f7a4_33 rfl rfl (by decide) rfl ?_
  refine dk_iload_n (pc' := 35) hE dJ6_bitCount_0f7a4_34 rfl rfl rfl ?_
  refine dk_iload_n (pc' := 36) hE dJ6_bitCount_0f7a4_35 rfl rfl rfl ?_
  refine dk_bipush (pc' := 38) hE dJ6_bitCount_0f7a4_36 (by decide) rfl ?_
  refine dk_iushr (pc' := 39) hE dJ6_bitCount_0f7a4_38 rfl (fun v11 hv11 => ?_)
  refine dk_iaddW (pc' := 40) hE dJ6_bitCount_0f7a4_39 rfl (fun v12 hv12 _ => ?_)
  refine dk_istore_n (pc' := 41) (ls' := [(0, v12)]) hE dJ6_bitCount_0f7a4_40 rfl rfl (by decide) rfl ?_
  refine dk_iload_n (pc' := 42) hE dJ6_bitCount_0f7a4_41 rfl rfl rfl ?_
  refine dk_iload_n (pc' := 43) hE dJ6_bitCount_0f7a4_42 rfl rfl rfl ?_
  refine dk_bipush (pc' := 45) hE dJ6_bitCount_0f7a4_43 (by decide) rfl ?_
  refine dk_iushr (pc' := 46) hE dJ6_bitCount_0f7a4_45 rfl (fun v13 hv13 => ?_)
  refine dk_iaddW (pc' := 47) hE dJ6_bitCount_0f7a4_46 rfl (fun v14 hv14 _ => ?_)
  refine dk_istore_n (pc' := 48) (ls' := [(0, v14)]) hE dJ6_bitCount_0f7a4_47 rfl rfl (by decide) rfl ?_
  refine dk_iload_n (pc' := 49) hE dJ6_bitCount_0f7a4_48 rfl rfl rfl ?_
  refine dk_bipush (pc' := 51) hE dJ6_bitCount_0f7a4_49 (by decide) rfl ?_
  refine dk_iand (pc' := 52) hE dJ6_bitCount_0f7a4_51 rfl (fun v15 hv15 ev15 => ?_)
  have hxv15 := dk_and63 ev15
  exact dk_iret (st := []) hE hR dJ6_bitCount_0f7a4_52 ⟨_, rfl, (fun k_ j_ h_ => rfl), by omega⟩
set_option maxHeartbeats 4000000 in
set_option maxRecDepth 20000 in
theorem ct_X6_open (l : Launch) (G : dkG) (hGd : dk_Gd G) (s r n d : Int) : dk_Ct l G dk_Ty yX6_open cX6_open 6 (none) 3 190 190 (fun av σ => av = [(4, 45), (4, s), (4, r), (0, n), (0, d)] ∧ (GI σ) ∧ (dk_sc s) ∧ (r = -1 ∨ dk_ru r) ∧ (0 ≤ n ∧ n ≤ 10) ∧ (0 ≤ d ∧ d ≤ 999)) (fun _ σ r_ σ' => r_ = none ∧ (∀ k_ j_ : Int, ¬ ((k_ = 45 ∧ j_ = 9) ∨ (k_ = 45 ∧ j_ = 10) ∨ (k_ = 45 ∧ j_ = 11) ∨ (k_ = 45 ∧ j_ = 12) ∨ (46 ≤ k_ ∧ k_ ≤ 74)) → σ' k_ j_ = σ k_ j_) ∧ (σ' 45 9 = s ∧ σ' 45 10 = r ∧ σ' 45 11 = n ∧ σ' 45 12 = d)) := by
  refine dk_enter hGd (by decide) (fun av σ hpre hok => ?_)
  obtain ⟨rfl, hG, hs, hr, hn, hd⟩ := hpre
  refine ⟨Nat.le_of_ble_eq_true rfl, fun E hE hR _ => ?_⟩
  have hi_n : dk_i32 n := dk_oki (hok _ (by simp))
  have hi_d : dk_i32 d := dk_oki (hok _ (by simp))
  show dk_PJ E 0 [(4, 45), (4, s), (4, r), (0, n), (0, d), (9, 0)] [] 190 σ
  refine dk_aload_n (pc' := 1) hE dX6_open_0 rfl rfl rfl ?_
  refine dk_aload_n (pc' := 2) hE dX6_open_1 rfl rfl rfl ?_
  refine pf_6_9 (pc' := 5) hE fl_X6_46 dX6_open_2 is_45 (by omega) rfl (fun σ1 eσ1 => ?_)
  refine dk_aload_n (pc' := 6) hE dX6_open_5 rfl rfl rfl ?_
  refine dk_aload_n (pc' := 7) hE dX6_open_6 rfl rfl rfl ?_
  refine pf_6_10 (pc' := 10) hE fl_X6_50 dX6_open_7 is_45 (by omega) rfl (fun σ2 eσ2 => ?_)
  refine dk_aload_n (pc' := 11) hE dX6_open_10 rfl rfl rfl ?_
  refine dk_iload_n (pc' := 12) hE dX6_open_11 rfl rfl rfl ?_
  refine pf_6_11 (pc' := 15) hE fl_X6_54 dX6_open_12 is_45 (by omega) rfl (fun σ3 eσ3 => ?_)
  refine dk_aload_n (pc' := 16) hE dX6_open_15 rfl rfl rfl ?_
  refine dk_iload (pc' := 18) hE dX6_open_16 rfl rfl ?_
  refine pf_6_12 (pc' := 21) hE fl_X6_58 dX6_open_18 is_45 (by omega) rfl (fun σ4 eσ4 => ?_)
  refine dk_iconst (pc' := 22) hE dX6_open_21 (by decide) rfl ?_
  refine dk_istore (pc' := 24) (ls' := [(4, 45), (4, s), (4, r), (0, n), (0, d), (0, 0)]) hE dX6_open_22 rfl (by decide) rfl ?_
  have lp24 : ∀ (N_ : Nat) (i : Int) (σ24c : dkS), (2147483648 - i).toNat < N_ → ((∀ k_ j_ : Int, ¬ ((46 ≤ k_ ∧ k_ ≤ 74)) → σ24c k_ j_ = σ4 k_ j_)) → (0 ≤ i) → dk_PJ E 24 [(4, 45), (4, s), (4, r), (0, n), (0, d), (0, i)] [] 190 σ24c := by
    intro N24
    induction N24 with
    | zero => intro i σ24c hm; exact absurd hm (Nat.not_lt_zero _)
    | succ N24 ih24 =>
      intro i σ24c hm24 hF24 hi
      refine dk_iload (pc' := 26) hE dX6_open_24 rfl rfl ?_
      refine dk_aload_n (pc' := 27) hE dX6_open_26 rfl rfl rfl ?_
      refine gf_6_11 (pc' := 30) hE fl_X6_54 dX6_open_27 is_45 rfl (fun v5 hv5 htv5 hbv5 => ?_)
      have hq5 : n = v5 := (show v5 = n by rw [hv5, hF24 45 11 (by omega), eσ4, dk_up_n (show ¬ (45 = 45 ∧ 11 = 12) by omega), eσ3, dk_up_s]).symm
      subst hq5
      clear htv5 hbv5
      refine dk_icmp_ge (tgt := 93) (pc' := 33) hE dX6_open_30 (by decide) rfl (fun hc6 => ?_) (fun hc6 => ?_)
      · skip
        refine dk_iconst (pc' := 94) hE dX6_open_93 (by decide) rfl ?_
        refine dk_istore (pc' := 96) (ls' := [(4, 45), (4, s), (4, r), (0, n), (0, d), (0, 0)]) hE dX6_open_94 rfl (by decide) rfl ?_
        have lp96 : ∀ (N_ : Nat) (i : Int) (σ96c : dkS), (2147483648 - i).toNat < N_ → ((∀ k_ j_ : Int, ¬ ((46 ≤ k_ ∧ k_ ≤ 74)) → σ96c k_ j_ = σ24c k_ j_)) → (0 ≤ i) → dk_PJ E 96 [(4, 45), (4, s), (4, r), (0, n), (0, d), (0, i)] [] 190 σ96c := by
          intro N96
          induction N96 with
          | zero => intro i σ96c hm; exact absurd hm (Nat.not_lt_zero _)
          | succ N96 ih96 =>
            intro i σ96c hm96 hF96 hi
            refine dk_iload (pc' := 98) hE dX6_open_96 rfl rfl ?_
            refine dk_aload_n (pc' := 99) hE dX6_open_98 rfl rfl rfl ?_
            refine gf_6_9 (pc' := 102) hE fl_X6_46 dX6_open_99 is_45 rfl (fun v7 hv7 htv7 hbv7 => ?_)
            have hq7 : s = v7 := (show v7 = s by rw [hv7, hF96 45 9 (by omega), hF24 45 9 (by omega), eσ4, dk_up_n (show ¬ (45 = 45 ∧ 9 = 12) by omega), eσ3, dk_up_n (show ¬ (45 = 45 ∧ 9 = 11) by omega), eσ2, dk_up_n (show ¬ (45 = 45 ∧ 9 = 10) by omega), eσ1, dk_up_s]).symm
            subst hq7
            clear htv7 hbv7
            refine gf_4_12 (pc' := 105) hE fl_X6_67 dX6_open_102 (sc_is (by omega)) rfl (fun v8 hv8 htv8 hbv8 => ?_)
            refine dk_icmp_ge (tgt := 131) (pc' := 108) hE dX6_open_105 (by decide) rfl (fun hc9 => ?_) (fun hc9 => ?_)
            · skip
              have hz10 : σ96c 45 9 = s := by rw [hF96 45 9 (by omega), hF24 45 9 (by omega), eσ4, dk_up_n (show ¬ (45 = 45 ∧ 9 = 12) by omega), eσ3, dk_up_n (show ¬ (45 = 45 ∧ 9 = 11) by omega), eσ2, dk_up_n (show ¬ (45 = 45 ∧ 9 = 10) by omega), eσ1, dk_up_s]
              have hz11 : σ96c 45 10 = r := by rw [hF96 45 10 (by omega), hF24 45 10 (by omega), eσ4, dk_up_n (show ¬ (45 = 45 ∧ 10 = 12) by omega), eσ3, dk_up_n (show ¬ (45 = 45 ∧ 10 = 11) by omega), eσ2, dk_up_s]
              have hz12 : σ96c 45 11 = n := by rw [hF96 45 11 (by omega), hF24 45 11 (by omega), eσ4, dk_up_n (show ¬ (45 = 45 ∧ 11 = 12) by omega), eσ3, dk_up_s]
              have hz13 : σ96c 45 12 = d := by rw [hF96 45 12 (by omega), hF24 45 12 (by omega), eσ4, dk_up_s]
              exact dk_vret (st := []) hE hR dX6_open_131 ⟨rfl, (fun k_ j_ h_ => by rw [hF96 k_ j_ (fun w_ => h_ (Or.inr (Or.inr (Or.inr (Or.inr (w_)))))), hF24 k_ j_ (fun w_ => h_ (Or.inr (Or.inr (Or.inr (Or.inr (w_)))))), eσ4, dk_up_n (show ¬ (k_ = 45 ∧ j_ = 12) from fun q_ => h_ (Or.inr (Or.inr (Or.inr (Or.inl (q_)))))), eσ3, dk_up_n (show ¬ (k_ = 45 ∧ j_ = 11) from fun q_ => h_ (Or.inr (Or.inr (Or.inl (q_))))), eσ2, dk_up_n (show ¬ (k_ = 45 ∧ j_ = 10) from fun q_ => h_ (Or.inr (Or.inl (q_)))), eσ1, dk_up_n (show ¬ (k_ = 45 ∧ j_ = 9) from fun q_ => h_ (Or.inl (q_)))]), by omega⟩
            · skip
              refine dk_aload_n (pc' := 109) hE dX6_open_108 rfl rfl rfl ?_
              refine gf_6_5 (pc' := 112) (w := 71) hE fl_X6_32 dX6_open_109 is_45 rfl rfl ?_
              refine dk_iload (pc' := 114) hE dX6_open_112 rfl rfl ?_
              refine dk_aload_n (pc' := 115) hE dX6_open_114 rfl rfl rfl ?_
              refine gf_6_9 (pc' := 118) hE fl_X6_46 dX6_open_115 is_45 rfl (fun v14 hv14 htv14 hbv14 => ?_)
              have hq14 : s = v14 := (show v14 = s by rw [hv14, hv7]).symm
              subst hq14
              clear htv14 hbv14
              refine dk_iload (pc' := 120) hE dX6_open_118 rfl rfl ?_
              refine dk_iconst (pc' := 121) hE dX6_open_120 (by decide) rfl ?_
              have gi15 : GI σ96c := GI_fr hG (fun k_ j_ h_ => by rw [hF96 k_ j_ (fpw17_1850366238 k_ j_ h_), hF24 k_ j_ (fpw17_1850366238 k_ j_ h_), eσ4, dk_up_n (show ¬ (k_ = 45 ∧ j_ = 12) from fun q_ => fpn17_45 q_.1 h_), eσ3, dk_up_n (show ¬ (k_ = 45 ∧ j_ = 11) from fun q_ => fpn17_45 q_.1 h_), eσ2, dk_up_n (show ¬ (k_ = 45 ∧ j_ = 10) from fun q_ => fpn17_45 q_.1 h_), eσ1, dk_up_n (show ¬ (k_ = 45 ∧ j_ = 9) from fun q_ => fpn17_45 q_.1 h_)])
              refine dk_cV (pc' := 124) (as := [(0, i), (0, 0)]) hE lk_X6_70 (ct_X4_loadOf l G hGd s i 0) dX6_open_121 rfl (sc_is (by omega)) rfl (by decide) (Nat.le_of_ble_eq_true rfl) ⟨rfl, (by omega), gi15, (by omega), (by omega)⟩ rfl (fun r17 σ16 hr17 hor17 => ?_)
              obtain ⟨v18, rfl, hfσ16, hpr17⟩ := hr17
              have hsσ16 : σ96c = σ16 := (funext (fun k => funext (fun j => hfσ16 k j not_false))).symm
              subst hsσ16
              refine pa_44 (pc' := 125) hE dX6_open_124 is_71 (by omega) trivial rfl (fun σ19 eσ19 => ?_)
              obtain ⟨v20, hv20⟩ : ∃ z : Int, z = i + 1 := ⟨_, rfl⟩
              refine dk_iinc (pc' := 128) (ls' := [(4, 45), (4, s), (4, r), (0, n), (0, d), (0, v20)]) hE dX6_open_125 rfl hv20.symm (by omega) rfl (by decide) rfl ?_
              refine dk_goto (tgt := 96) hE dX6_open_128 (by decide) ?_
              exact ih96 v20 σ19 (by omega) (fun k_ j_ h_ => by rw [eσ19, dk_up_n (show ¬ (k_ = 71 ∧ j_ = i) from fun q_ => h_ (dk_wr (lo := 46) (hi := 74) q_.1 (by decide))), hF96 k_ j_ (fun w_ => h_ (w_))]) (by omega)
        exact lp96 _ 0 σ24c (Nat.lt_succ_self _) (fun k_ j_ h_ => rfl) (by omega)
      · skip
        refine dk_aload_n (pc' := 34) hE dX6_open_33 rfl rfl rfl ?_
        refine gf_6_0 (pc' := 37) (w := 46) hE fl_X6_13 dX6_open_34 is_45 rfl rfl ?_
        refine dk_iload (pc' := 39) hE dX6_open_37 rfl rfl ?_
        refine ga_37 (pc' := 40) (w := (47 + i)) hE dX6_open_39 is_46 (by omega) (by omega) rfl ?_
        refine dk_iconst (pc' := 41) hE dX6_open_40 (by decide) rfl ?_
        refine dk_cS (pc' := 44) (as := [(4, (47 + i)), (0, (-1))]) hE lk_X6_61 (ct_J7_fill_53178_38 l G hGd (47 + i) (-1)) dX6_open_41 rfl rfl (by decide) (Nat.le_of_ble_eq_true rfl) ⟨rfl, (rw_known (by omega))⟩ rfl (fun r22 σ21 hr22 hor22 => ?_)
        obtain ⟨rfl, hfσ21, hpr22⟩ := hr22
        refine dk_aload_n (pc' := 45) hE dX6_open_44 rfl rfl rfl ?_
        refine gf_6_1 (pc' := 48) (w := 57) hE fl_X6_18 dX6_open_45 is_45 rfl rfl ?_
        refine dk_iload (pc' := 50) hE dX6_open_48 rfl rfl ?_
        refine ga_39 (pc' := 51) (w := (58 + i)) hE dX6_open_50 is_57 (by omega) (by omega) rfl ?_
        refine dk_iconst (pc' := 52) hE dX6_open_51 (by decide) rfl ?_
        refine dk_cS (pc' := 55) (as := [(4, (58 + i)), (0, (-1))]) hE lk_X6_61 (ct_J7_fill_53178_40 l G hGd (58 + i) (-1)) dX6_open_52 rfl rfl (by decide) (Nat.le_of_ble_eq_true rfl) ⟨rfl, (rw_last (by omega))⟩ rfl (fun r24 σ23 hr24 hor24 => ?_)
        obtain ⟨rfl, hfσ23, hpr24⟩ := hr24
        refine dk_aload_n (pc' := 56) hE dX6_open_55 rfl rfl rfl ?_
        refine gf_6_2 (pc' := 59) (w := 68) hE fl_X6_21 dX6_open_56 is_45 rfl rfl ?_
        refine dk_iload (pc' := 61) hE dX6_open_59 rfl rfl ?_
        refine dk_iconst (pc' := 62) hE dX6_open_61 (by decide) rfl ?_
        refine pa_41 (pc' := 63) hE dX6_open_62 is_68 (by omega) trivial rfl (fun σ25 eσ25 => ?_)
        refine dk_aload_n (pc' := 64) hE dX6_open_63 rfl rfl rfl ?_
        refine gf_6_8 (pc' := 67) (w := 74) hE fl_X6_43 dX6_open_64 is_45 rfl rfl ?_
        refine dk_iload (pc' := 69) hE dX6_open_67 rfl rfl ?_
        refine dk_iconst (pc' := 70) hE dX6_open_69 (by decide) rfl ?_
        refine pa_47 (pc' := 71) hE dX6_open_70 is_74 (by omega) trivial rfl (fun σ26 eσ26 => ?_)
        refine dk_aload_n (pc' := 72) hE dX6_open_71 rfl rfl rfl ?_
        refine gf_6_3 (pc' := 75) (w := 69) hE fl_X6_25 dX6_open_72 is_45 rfl rfl ?_
        refine dk_iload (pc' := 77) hE dX6_open_75 rfl rfl ?_
        refine dk_iconst (pc' := 78) hE dX6_open_77 (by decide) rfl ?_
        refine pa_42 (pc' := 79) hE dX6_open_78 is_69 (by omega) (by omega) trivial rfl (fun σ27 eσ27 => ?_)
        refine dk_aload_n (pc' := 80) hE dX6_open_79 rfl rfl rfl ?_
        refine gf_6_4 (pc' := 83) (w := 70) hE fl_X6_29 dX6_open_80 is_45 rfl rfl ?_
        refine dk_iload (pc' := 85) hE dX6_open_83 rfl rfl ?_
        refine dk_iconst (pc' := 86) hE dX6_open_85 (by decide) rfl ?_
        refine pa_43 (pc' := 87) hE dX6_open_86 is_70 (by omega) (by omega) trivial rfl (fun σ28 eσ28 => ?_)
        obtain ⟨v29, hv29⟩ : ∃ z : Int, z = i + 1 := ⟨_, rfl⟩
        refine dk_iinc (pc' := 90) (ls' := [(4, 45), (4, s), (4, r), (0, n), (0, d), (0, v29)]) hE dX6_open_87 rfl hv29.symm (by omega) rfl (by decide) rfl ?_
        refine dk_goto (tgt := 24) hE dX6_open_90 (by decide) ?_
        have hw30 : 46 ≤ (58 + i) ∧ (58 + i) ≤ 74 := by omega
        have hw31 : 46 ≤ (47 + i) ∧ (47 + i) ≤ 74 := by omega
        exact ih24 v29 σ28 (by omega) (fun k_ j_ h_ => by rw [eσ28, dk_up_n (show ¬ (k_ = 70 ∧ j_ = i) from fun q_ => h_ (dk_wr (lo := 46) (hi := 74) q_.1 (by decide))), eσ27, dk_up_n (show ¬ (k_ = 69 ∧ j_ = i) from fun q_ => h_ (dk_wr (lo := 46) (hi := 74) q_.1 (by decide))), eσ26, dk_up_n (show ¬ (k_ = 74 ∧ j_ = i) from fun q_ => h_ (dk_wr (lo := 46) (hi := 74) q_.1 (by decide))), eσ25, dk_up_n (show ¬ (k_ = 68 ∧ j_ = i) from fun q_ => h_ (dk_wr (lo := 46) (hi := 74) q_.1 (by decide))), hfσ23 k_ j_ (fun w_ => h_ (dk_wr w_ hw30)), hfσ21 k_ j_ (fun w_ => h_ (dk_wr w_ hw31)), hF24 k_ j_ (fun w_ => h_ (w_))]) (by omega)
  exact lp24 _ 0 σ4 (Nat.lt_succ_self _) (fun k_ j_ h_ => rfl) (by omega)
set_option maxHeartbeats 4000000 in
set_option maxRecDepth 20000 in
theorem ct_X6_gatherKnown (l : Launch) (G : dkG) (hGd : dk_Gd G) (b p f : Int) : dk_Ct l G dk_Ty yX6_gatherKnown cX6_gatherKnown 5 (none) 2 190 190 (fun av σ => av = [(4, 45), (0, b), (0, p), (0, f)] ∧ (0 ≤ b ∧ b < 10) ∧ (0 ≤ p ∧ p < 12)) (fun _ σ r_ σ' => r_ = none ∧ (∀ k_ j_ : Int, ¬ ((47 ≤ k_ ∧ k_ ≤ 56)) → σ' k_ j_ = σ k_ j_) ∧ (True)) := by
  refine dk_enter hGd (by decide) (fun av σ hpre hok => ?_)
  obtain ⟨rfl, hb, hp⟩ := hpre
  refine ⟨Nat.le_of_ble_eq_true rfl, fun E hE hR _ => ?_⟩
  have hi_b : dk_i32 b := dk_oki (hok _ (by simp))
  have hi_p : dk_i32 p := dk_oki (hok _ (by simp))
  have hi_f : dk_i32 f := dk_oki (hok _ (by simp))
  show dk_PJ E 0 [(4, 45), (0, b), (0, p), (0, f), (9, 0)] [] 190 σ
  refine dk_aload_n (pc' := 1) hE dX6_gatherKnown_0 rfl rfl rfl ?_
  refine gf_6_0 (pc' := 4) (w := 46) hE fl_X6_13 dX6_gatherKnown_1 is_45 rfl rfl ?_
  refine dk_iload_n (pc' := 5) hE dX6_gatherKnown_4 rfl rfl rfl ?_
  refine ga_37 (pc' := 6) (w := (47 + b)) hE dX6_gatherKnown_5 is_46 (by omega) (by omega) rfl ?_
  refine dk_iload_n (pc' := 7) hE dX6_gatherKnown_6 rfl rfl rfl ?_
  refine ga_38 (pc' := 8) hE dX6_gatherKnown_7 (rw_known (by omega)) (by omega) rfl (fun v1 hv1 htv1 hbv1 => ?_)
  refine dk_istore (pc' := 10) (ls' := [(4, 45), (0, b), (0, p), (0, f), (0, v1)]) hE dX6_gatherKnown_8 rfl (by decide) rfl ?_
  refine dk_aload_n (pc' := 11) hE dX6_gatherKnown_10 rfl rfl rfl ?_
  refine gf_6_0 (pc' := 14) (w := 46) hE fl_X6_13 dX6_gatherKnown_11 is_45 rfl rfl ?_
  refine dk_iload_n (pc' := 15) hE dX6_gatherKnown_14 rfl rfl rfl ?_
  refine ga_37 (pc' := 16) (w := (47 + b)) hE dX6_gatherKnown_15 is_46 (by omega) (by omega) rfl ?_
  refine dk_iload_n (pc' := 17) hE dX6_gatherKnown_16 rfl rfl rfl ?_
  refine dk_iload (pc' := 19) hE dX6_gatherKnown_17 rfl rfl ?_
  refine dk_iconst (pc' := 20) hE dX6_gatherKnown_19 (by decide) rfl ?_
  refine dk_icmp_ne (tgt := 27) (pc' := 23) hE dX6_gatherKnown_20 (by decide) rfl (fun hc2 => ?_) (fun hc2 => ?_)
  · skip
    refine dk_iload (pc' := 29) hE dX6_gatherKnown_27 rfl rfl ?_
    refine dk_iload_n (pc' := 30) hE dX6_gatherKnown_29 rfl rfl rfl ?_
    refine dk_mmin (pc' := 33) hE wd_1068 dX6_gatherKnown_30 (Nat.le_of_ble_eq_true rfl) (by decide) rfl (fun v3 hv3 => ?_)
    refine pa_38 (pc' := 34) hE dX6_gatherKnown_33 (rw_known (by omega)) (by omega) trivial rfl (fun σ4 eσ4 => ?_)
    have hw5 : 47 ≤ (47 + b) ∧ (47 + b) ≤ 56 := by omega
    exact dk_vret (st := []) hE hR dX6_gatherKnown_34 ⟨rfl, (fun k_ j_ h_ => by rw [eσ4, dk_up_n (show ¬ (k_ = (47 + b) ∧ j_ = p) from fun q_ => h_ (dk_wr q_.1 hw5))]), trivial⟩
  · skip
    refine dk_iload_n (pc' := 24) hE dX6_gatherKnown_23 rfl rfl rfl ?_
    refine dk_goto (tgt := 33) hE dX6_gatherKnown_24 (by decide) ?_
    refine pa_38 (pc' := 34) hE dX6_gatherKnown_33 (rw_known (by omega)) (by omega) trivial rfl (fun σ6 eσ6 => ?_)
    have hw7 : 47 ≤ (47 + b) ∧ (47 + b) ≤ 56 := by omega
    exact dk_vret (st := []) hE hR dX6_gatherKnown_34 ⟨rfl, (fun k_ j_ h_ => by rw [eσ6, dk_up_n (show ¬ (k_ = (47 + b) ∧ j_ = p) from fun q_ => h_ (dk_wr q_.1 hw7))]), trivial⟩
set_option maxHeartbeats 4000000 in
set_option maxRecDepth 20000 in
theorem ct_X6_gatherDanced (l : Launch) (G : dkG) (hGd : dk_Gd G) (b p f : Int) : dk_Ct l G dk_Ty yX6_gatherDanced cX6_gatherDanced 4 (none) 2 190 190 (fun av σ => av = [(4, 45), (0, b), (0, p), (0, f)] ∧ (0 ≤ b ∧ b < 10) ∧ (0 ≤ p ∧ p < 12)) (fun _ σ r_ σ' => r_ = none ∧ (∀ k_ j_ : Int, ¬ ((58 ≤ k_ ∧ k_ ≤ 67) ∨ k_ = 68 ∨ k_ = 74) → σ' k_ j_ = σ k_ j_) ∧ (True)) := by
  refine dk_enter hGd (by decide) (fun av σ hpre hok => ?_)
  obtain ⟨rfl, hb, hp⟩ := hpre
  refine ⟨Nat.le_of_ble_eq_true rfl, fun E hE hR _ => ?_⟩
  have hi_b : dk_i32 b := dk_oki (hok _ (by simp))
  have hi_p : dk_i32 p := dk_oki (hok _ (by simp))
  have hi_f : dk_i32 f := dk_oki (hok _ (by simp))
  show dk_PJ E 0 [(4, 45), (0, b), (0, p), (0, f)] [] 190 σ
  refine dk_iload_n (pc' := 1) hE dX6_gatherDanced_0 rfl rfl rfl ?_
  refine dk_aload_n (pc' := 2) hE dX6_gatherDanced_1 rfl rfl rfl ?_
  refine gf_6_12 (pc' := 5) hE fl_X6_58 dX6_gatherDanced_2 is_45 rfl (fun v1 hv1 htv1 hbv1 => ?_)
  refine dk_icmp_lt (tgt := 9) (pc' := 8) hE dX6_gatherDanced_5 (by decide) rfl (fun hc2 => ?_) (fun hc2 => ?_)
  · skip
    refine dk_aload_n (pc' := 10) hE dX6_gatherDanced_9 rfl rfl rfl ?_
    refine gf_6_1 (pc' := 13) (w := 57) hE fl_X6_18 dX6_gatherDanced_10 is_45 rfl rfl ?_
    refine dk_iload_n (pc' := 14) hE dX6_gatherDanced_13 rfl rfl rfl ?_
    refine ga_39 (pc' := 15) (w := (58 + b)) hE dX6_gatherDanced_14 is_57 (by omega) (by omega) rfl ?_
    refine dk_iload_n (pc' := 16) hE dX6_gatherDanced_15 rfl rfl rfl ?_
    refine dk_aload_n (pc' := 17) hE dX6_gatherDanced_16 rfl rfl rfl ?_
    refine gf_6_1 (pc' := 20) (w := 57) hE fl_X6_18 dX6_gatherDanced_17 is_45 rfl rfl ?_
    refine dk_iload_n (pc' := 21) hE dX6_gatherDanced_20 rfl rfl rfl ?_
    refine ga_39 (pc' := 22) (w := (58 + b)) hE dX6_gatherDanced_21 is_57 (by omega) (by omega) rfl ?_
    refine dk_iload_n (pc' := 23) hE dX6_gatherDanced_22 rfl rfl rfl ?_
    refine ga_40 (pc' := 24) hE dX6_gatherDanced_23 (rw_last (by omega)) (by omega) rfl (fun v3 hv3 htv3 hbv3 => ?_)
    refine dk_iload_n (pc' := 25) hE dX6_gatherDanced_24 rfl rfl rfl ?_
    refine dk_mmax (pc' := 28) hE wd_1073 dX6_gatherDanced_25 (Nat.le_of_ble_eq_true rfl) (by decide) rfl (fun v4 hv4 => ?_)
    refine pa_40 (pc' := 29) hE dX6_gatherDanced_28 (rw_last (by omega)) (by omega) trivial rfl (fun σ5 eσ5 => ?_)
    refine dk_aload_n (pc' := 30) hE dX6_gatherDanced_29 rfl rfl rfl ?_
    refine gf_6_2 (pc' := 33) (w := 68) hE fl_X6_21 dX6_gatherDanced_30 is_45 rfl rfl ?_
    refine dk_iload_n (pc' := 34) hE dX6_gatherDanced_33 rfl rfl rfl ?_
    refine dk_aload_n (pc' := 35) hE dX6_gatherDanced_34 rfl rfl rfl ?_
    refine gf_6_2 (pc' := 38) (w := 68) hE fl_X6_21 dX6_gatherDanced_35 is_45 rfl rfl ?_
    refine dk_iload_n (pc' := 39) hE dX6_gatherDanced_38 rfl rfl rfl ?_
    refine ga_41 (pc' := 40) hE dX6_gatherDanced_39 is_68 (by omega) rfl (fun v6 hv6 htv6 hbv6 => ?_)
    refine dk_iload_n (pc' := 41) hE dX6_gatherDanced_40 rfl rfl rfl ?_
    refine dk_mmax (pc' := 44) hE wd_1073 dX6_gatherDanced_41 (Nat.le_of_ble_eq_true rfl) (by decide) rfl (fun v7 hv7 => ?_)
    refine pa_41 (pc' := 45) hE dX6_gatherDanced_44 is_68 (by omega) trivial rfl (fun σ8 eσ8 => ?_)
    refine dk_iload_n (pc' := 46) hE dX6_gatherDanced_45 rfl rfl rfl ?_
    refine dk_aload_n (pc' := 47) hE dX6_gatherDanced_46 rfl rfl rfl ?_
    refine gf_6_12 (pc' := 50) hE fl_X6_58 dX6_gatherDanced_47 is_45 rfl (fun v9 hv9 htv9 hbv9 => ?_)
    have hq9 : v1 = v9 := (show v9 = v1 by rw [hv9, eσ8, dk_up_n (show ¬ (45 = 68 ∧ 12 = b) by omega), eσ5, dk_up_n (show ¬ (45 = (58 + b) ∧ 12 = p) by omega), hv1]).symm
    subst hq9
    clear htv9 hbv9
    refine dk_bipush (pc' := 52) hE dX6_gatherDanced_50 (by decide) rfl ?_
    obtain ⟨v10, hv10⟩ : ∃ z : Int, z = v1 - 7 := ⟨_, rfl⟩
    refine dk_isub (pc' := 53) hE dX6_gatherDanced_52 hv10.symm (by omega) rfl ?_
    refine dk_icmp_lt (tgt := 71) (pc' := 56) hE dX6_gatherDanced_53 (by decide) rfl (fun hc11 => ?_) (fun hc11 => ?_)
    · skip
      have hw12 : 58 ≤ (58 + b) ∧ (58 + b) ≤ 67 := by omega
      exact dk_vret (st := []) hE hR dX6_gatherDanced_71 ⟨rfl, (fun k_ j_ h_ => by rw [eσ8, dk_up_n (show ¬ (k_ = 68 ∧ j_ = b) from fun q_ => h_ (Or.inr (Or.inl (q_.1)))), eσ5, dk_up_n (show ¬ (k_ = (58 + b) ∧ j_ = p) from fun q_ => h_ (Or.inl (dk_wr q_.1 hw12)))]), trivial⟩
    · skip
      refine dk_aload_n (pc' := 57) hE dX6_gatherDanced_56 rfl rfl rfl ?_
      refine gf_6_8 (pc' := 60) (w := 74) hE fl_X6_43 dX6_gatherDanced_57 is_45 rfl rfl ?_
      refine dk_iload_n (pc' := 61) hE dX6_gatherDanced_60 rfl rfl rfl ?_
      refine dk_dup2 (pc' := 62) hE dX6_gatherDanced_61 (show (0 : Nat) ≠ 3 by decide) (show (4 : Nat) ≠ 3 by decide) rfl ?_
      refine ga_47 (pc' := 63) hE dX6_gatherDanced_62 is_74 (by omega) rfl (fun v13 hv13 htv13 hbv13 => ?_)
      refine dk_aload_n (pc' := 64) hE dX6_gatherDanced_63 rfl rfl rfl ?_
      refine gf_6_5 (pc' := 67) (w := 71) hE fl_X6_32 dX6_gatherDanced_64 is_45 rfl rfl ?_
      refine dk_iload_n (pc' := 68) hE dX6_gatherDanced_67 rfl rfl rfl ?_
      refine ga_44 (pc' := 69) hE dX6_gatherDanced_68 is_71 (by omega) rfl (fun v14 hv14 htv14 hbv14 => ?_)
      refine dk_iaddW (pc' := 70) hE dX6_gatherDanced_69 rfl (fun v15 hv15 _ => ?_)
      refine pa_47 (pc' := 71) hE dX6_gatherDanced_70 is_74 (by omega) trivial rfl (fun σ16 eσ16 => ?_)
      have hw17 : 58 ≤ (58 + b) ∧ (58 + b) ≤ 67 := by omega
      exact dk_vret (st := []) hE hR dX6_gatherDanced_71 ⟨rfl, (fun k_ j_ h_ => by rw [eσ16, dk_up_n (show ¬ (k_ = 74 ∧ j_ = b) from fun q_ => h_ (Or.inr (Or.inr (q_.1)))), eσ8, dk_up_n (show ¬ (k_ = 68 ∧ j_ = b) from fun q_ => h_ (Or.inr (Or.inl (q_.1)))), eσ5, dk_up_n (show ¬ (k_ = (58 + b) ∧ j_ = p) from fun q_ => h_ (Or.inl (dk_wr q_.1 hw17)))]), trivial⟩
  · skip
    exact dk_vret (st := []) hE hR dX6_gatherDanced_8 ⟨rfl, (fun k_ j_ h_ => rfl), trivial⟩
set_option maxHeartbeats 4000000 in
set_option maxRecDepth 20000 in
theorem ct_X6_gather (l : Launch) (G : dkG) (hGd : dk_Gd G) (k : Int) : dk_Ct l G dk_Ty yX6_gather cX6_gather 6 (none) 3 190 190 (fun av σ => av = [(4, 45), (4, 37), (0, k)]) (fun _ σ r_ σ' => r_ = none ∧ (∀ k_ j_ : Int, ¬ ((46 ≤ k_ ∧ k_ ≤ 74)) → σ' k_ j_ = σ k_ j_) ∧ (True)) := by
  refine dk_enter hGd (by decide) (fun av σ hpre hok => ?_)
  subst hpre
  refine ⟨Nat.le_of_ble_eq_true rfl, fun E hE hR _ => ?_⟩
  have hi_k : dk_i32 k := dk_oki (hok _ (by simp))
  show dk_PJ E 0 [(4, 45), (4, 37), (0, k), (9, 0), (9, 0), (9, 0)] [] 190 σ
  refine dk_iconst (pc' := 1) hE dX6_gather_0 (by decide) rfl ?_
  refine dk_istore_n (pc' := 2) (ls' := [(4, 45), (4, 37), (0, k), (0, 0), (9, 0), (9, 0)]) hE dX6_gather_1 rfl rfl (by decide) rfl ?_
  have lp2 : ∀ (N_ : Nat) (i : Int) (σ2c : dkS), (2147483648 - i).toNat < N_ → ((∀ k_ j_ : Int, ¬ ((46 ≤ k_ ∧ k_ ≤ 74)) → σ2c k_ j_ = σ k_ j_)) → (0 ≤ i) → dk_PJ E 2 [(4, 45), (4, 37), (0, k), (0, i), (9, 0), (9, 0)] [] 190 σ2c := by
    intro N2
    induction N2 with
    | zero => intro i σ2c hm; exact absurd hm (Nat.not_lt_zero _)
    | succ N2 ih2 =>
      intro i σ2c hm2 hF2 hi
      refine dk_iload_n (pc' := 3) hE dX6_gather_2 rfl rfl rfl ?_
      refine dk_aload_n (pc' := 4) hE dX6_gather_3 rfl rfl rfl ?_
      refine gf_1_7 (pc' := 7) hE fl_X6_74 dX6_gather_4 is_37 rfl (fun v1 hv1 htv1 hbv1 => ?_)
      refine dk_icmp_ge (tgt := 178) (pc' := 10) hE dX6_gather_7 (by decide) rfl (fun hc2 => ?_) (fun hc2 => ?_)
      · skip
        exact dk_vret (st := []) hE hR dX6_gather_178 ⟨rfl, (fun k_ j_ h_ => by rw [hF2 k_ j_ (fun w_ => h_ (w_))]), trivial⟩
      · skip
        refine dk_aload_n (pc' := 11) hE dX6_gather_10 rfl rfl rfl ?_
        refine dk_iload_n (pc' := 12) hE dX6_gather_11 rfl rfl rfl ?_
        refine dk_iload_n (pc' := 13) hE dX6_gather_12 rfl rfl rfl ?_
        refine dk_cV (pc' := 16) (as := [(0, i), (0, k)]) hE lk_X6_79 (ct_X1_counts l G hGd i k) dX6_gather_13 rfl is_37 rfl (by decide) (Nat.le_of_ble_eq_true rfl) ⟨rfl, (by omega)⟩ rfl (fun r4 σ3 hr4 hor4 => ?_)
        obtain ⟨v5, rfl, hfσ3, hpr4⟩ := hr4
        have hsσ3 : σ2c = σ3 := (funext (fun k => funext (fun j => hfσ3 k j not_false))).symm
        subst hsσ3
        refine dk_if_eq (tgt := 172) (pc' := 19) hE dX6_gather_16 (by decide) rfl (fun hc6 => ?_) (fun hc6 => ?_)
        · skip
          obtain ⟨v7, hv7⟩ : ∃ z : Int, z = i + 1 := ⟨_, rfl⟩
          refine dk_iinc (pc' := 175) (ls' := [(4, 45), (4, 37), (0, k), (0, v7), (9, 0), (9, 0)]) hE dX6_gather_172 rfl hv7.symm (by omega) rfl (by decide) rfl ?_
          refine dk_goto (tgt := 2) hE dX6_gather_175 (by decide) ?_
          exact ih2 v7 σ2c (by omega) (fun k_ j_ h_ => by rw [hF2 k_ j_ (fun w_ => h_ (w_))]) (by omega)
        · skip
          refine dk_aload_n (pc' := 20) hE dX6_gather_19 rfl rfl rfl ?_
          refine gf_1_0 (pc' := 23) (w := 38) hE fl_X6_83 dX6_gather_20 is_37 rfl rfl ?_
          refine dk_iload_n (pc' := 24) hE dX6_gather_23 rfl rfl rfl ?_
          refine ga_30 (pc' := 25) hE dX6_gather_24 is_38 (by omega) rfl (fun v8 hv8 htv8 hbv8 => ?_)
          refine dk_iconst (pc' := 26) hE dX6_gather_25 (by decide) rfl ?_
          refine dk_icmp_eq (tgt := 172) (pc' := 29) hE dX6_gather_26 (by decide) rfl (fun hc9 => ?_) (fun hc9 => ?_)
          · skip
            obtain ⟨v10, hv10⟩ : ∃ z : Int, z = i + 1 := ⟨_, rfl⟩
            refine dk_iinc (pc' := 175) (ls' := [(4, 45), (4, 37), (0, k), (0, v10), (9, 0), (9, 0)]) hE dX6_gather_172 rfl hv10.symm (by omega) rfl (by decide) rfl ?_
            refine dk_goto (tgt := 2) hE dX6_gather_175 (by decide) ?_
            exact ih2 v10 σ2c (by omega) (fun k_ j_ h_ => by rw [hF2 k_ j_ (fun w_ => h_ (w_))]) (by omega)
          · skip
            refine dk_aload_n (pc' := 30) hE dX6_gather_29 rfl rfl rfl ?_
            refine gf_1_3 (pc' := 33) (w := 41) hE fl_X6_86 dX6_gather_30 is_37 rfl rfl ?_
            refine dk_iload_n (pc' := 34) hE dX6_gather_33 rfl rfl rfl ?_
            refine ga_33 (pc' := 35) hE dX6_gather_34 is_41 (by omega) rfl (fun v11 hv11 htv11 hbv11 => ?_)
            refine dk_aload_n (pc' := 36) hE dX6_gather_35 rfl rfl rfl ?_
            refine gf_6_12 (pc' := 39) hE fl_X6_58 dX6_gather_36 is_45 rfl (fun v12 hv12 htv12 hbv12 => ?_)
            refine dk_icmp_le (tgt := 45) (pc' := 42) hE dX6_gather_39 (by decide) rfl (fun hc13 => ?_) (fun hc13 => ?_)
            · skip
              refine dk_aload_n (pc' := 46) hE dX6_gather_45 rfl rfl rfl ?_
              refine gf_1_1 (pc' := 49) (w := 39) hE fl_X6_89 dX6_gather_46 is_37 rfl rfl ?_
              refine dk_iload_n (pc' := 50) hE dX6_gather_49 rfl rfl rfl ?_
              refine ga_31 (pc' := 51) hE dX6_gather_50 is_39 (by omega) rfl (fun v14 hv14 htv14 hbv14 => ?_)
              refine dk_istore (pc' := 53) (ls' := [(4, 45), (4, 37), (0, k), (0, i), (0, v14), (9, 0)]) hE dX6_gather_51 rfl (by decide) rfl ?_
              refine dk_aload_n (pc' := 54) hE dX6_gather_53 rfl rfl rfl ?_
              refine gf_1_3 (pc' := 57) (w := 41) hE fl_X6_86 dX6_gather_54 is_37 rfl rfl ?_
              refine dk_iload_n (pc' := 58) hE dX6_gather_57 rfl rfl rfl ?_
              refine ga_33 (pc' := 59) hE dX6_gather_58 is_41 (by omega) rfl (fun v15 hv15 htv15 hbv15 => ?_)
              have hq15 : v11 = v15 := (show v15 = v11 by rw [hv15, hv11]).symm
              subst hq15
              clear htv15 hbv15
              refine dk_istore (pc' := 61) (ls' := [(4, 45), (4, 37), (0, k), (0, i), (0, v14), (0, v11)]) hE dX6_gather_59 rfl (by decide) rfl ?_
              refine dk_aload_n (pc' := 62) hE dX6_gather_61 rfl rfl rfl ?_
              refine gf_1_0 (pc' := 65) (w := 38) hE fl_X6_83 dX6_gather_62 is_37 rfl rfl ?_
              refine dk_iload_n (pc' := 66) hE dX6_gather_65 rfl rfl rfl ?_
              refine ga_30 (pc' := 67) hE dX6_gather_66 is_38 (by omega) rfl (fun v16 hv16 htv16 hbv16 => ?_)
              have hq16 : v8 = v16 := (show v16 = v8 by rw [hv16, hv8]).symm
              subst hq16
              clear htv16 hbv16
              refine dk_table (tgs := [96, 113, 130, 161]) (td := 172) hE dX6_gather_67 (by decide) (by decide) (by decide) (fun hc17 => ?_) (fun i18 t19 q20 hc17 => ?_)
              · skip
                obtain ⟨v21, hv21⟩ : ∃ z : Int, z = i + 1 := ⟨_, rfl⟩
                refine dk_iinc (pc' := 175) (ls' := [(4, 45), (4, 37), (0, k), (0, v21), (0, v14), (0, v11)]) hE dX6_gather_172 rfl hv21.symm (by omega) rfl (by decide) rfl ?_
                refine dk_goto (tgt := 2) hE dX6_gather_175 (by decide) ?_
                refine dk_drop (ls' := [(4, 45), (4, 37), (0, k), (0, v21), (9, 0), (9, 0)]) [true, true, true, true, false, false] rfl ?_
                exact ih2 v21 σ2c (by omega) (fun k_ j_ h_ => by rw [hF2 k_ j_ (fun w_ => h_ (w_))]) (by omega)
              · have i18l : i18 < 4 := (List.getElem?_eq_some_iff.mp q20).1
                rcases (show i18 = 0 ∨ i18 = 1 ∨ i18 = 2 ∨ i18 = 3 by omega) with rfl | rfl | rfl | rfl
                · cases q20
                  refine dk_aload_n (pc' := 97) hE dX6_gather_96 rfl rfl rfl ?_
                  refine dk_iload (pc' := 99) hE dX6_gather_97 rfl rfl ?_
                  refine dk_aload_n (pc' := 100) hE dX6_gather_99 rfl rfl rfl ?_
                  refine gf_1_2 (pc' := 103) (w := 40) hE fl_X6_92 dX6_gather_100 is_37 rfl rfl ?_
                  refine dk_iload_n (pc' := 104) hE dX6_gather_103 rfl rfl rfl ?_
                  refine ga_32 (pc' := 105) hE dX6_gather_104 is_40 (by omega) rfl (fun v22 hv22 htv22 hbv22 => ?_)
                  refine dk_iload (pc' := 107) hE dX6_gather_105 rfl rfl ?_
                  refine dk_cV (pc' := 110) (as := [(0, v14), (0, v22), (0, v11)]) hE lk_X6_95 (ct_X6_gatherKnown l G hGd v14 v22 v11) dX6_gather_107 rfl is_45 rfl (by decide) (Nat.le_of_ble_eq_true rfl) ⟨rfl, (by omega), (by omega)⟩ rfl (fun r24 σ23 hr24 hor24 => ?_)
                  obtain ⟨rfl, hfσ23, hpr24⟩ := hr24
                  refine dk_goto (tgt := 172) hE dX6_gather_110 (by decide) ?_
                  obtain ⟨v25, hv25⟩ : ∃ z : Int, z = i + 1 := ⟨_, rfl⟩
                  refine dk_iinc (pc' := 175) (ls' := [(4, 45), (4, 37), (0, k), (0, v25), (0, v14), (0, v11)]) hE dX6_gather_172 rfl hv25.symm (by omega) rfl (by decide) rfl ?_
                  refine dk_goto (tgt := 2) hE dX6_gather_175 (by decide) ?_
                  refine dk_drop (ls' := [(4, 45), (4, 37), (0, k), (0, v25), (9, 0), (9, 0)]) [true, true, true, true, false, false] rfl ?_
                  exact ih2 v25 σ23 (by omega) (fun k_ j_ h_ => by rw [hfσ23 k_ j_ (fun w_ => h_ (dk_wrr (lo := 46) (hi := 74) w_ (by decide) (by decide))), hF2 k_ j_ (fun w_ => h_ (w_))]) (by omega)
                · cases q20
                  refine dk_aload_n (pc' := 114) hE dX6_gather_113 rfl rfl rfl ?_
                  refine dk_iload (pc' := 116) hE dX6_gather_114 rfl rfl ?_
                  refine dk_aload_n (pc' := 117) hE dX6_gather_116 rfl rfl rfl ?_
                  refine gf_1_2 (pc' := 120) (w := 40) hE fl_X6_92 dX6_gather_117 is_37 rfl rfl ?_
                  refine dk_iload_n (pc' := 121) hE dX6_gather_120 rfl rfl rfl ?_
                  refine ga_32 (pc' := 122) hE dX6_gather_121 is_40 (by omega) rfl (fun v26 hv26 htv26 hbv26 => ?_)
                  refine dk_iload (pc' := 124) hE dX6_gather_122 rfl rfl ?_
                  refine dk_cV (pc' := 127) (as := [(0, v14), (0, v26), (0, v11)]) hE lk_X6_99 (ct_X6_gatherDanced l G hGd v14 v26 v11) dX6_gather_124 rfl is_45 rfl (by decide) (Nat.le_of_ble_eq_true rfl) ⟨rfl, (by omega), (by omega)⟩ rfl (fun r28 σ27 hr28 hor28 => ?_)
                  obtain ⟨rfl, hfσ27, hpr28⟩ := hr28
                  refine dk_goto (tgt := 172) hE dX6_gather_127 (by decide) ?_
                  obtain ⟨v29, hv29⟩ : ∃ z : Int, z = i + 1 := ⟨_, rfl⟩
                  refine dk_iinc (pc' := 175) (ls' := [(4, 45), (4, 37), (0, k), (0, v29), (0, v14), (0, v11)]) hE dX6_gather_172 rfl hv29.symm (by omega) rfl (by decide) rfl ?_
                  refine dk_goto (tgt := 2) hE dX6_gather_175 (by decide) ?_
                  refine dk_drop (ls' := [(4, 45), (4, 37), (0, k), (0, v29), (9, 0), (9, 0)]) [true, true, true, true, false, false] rfl ?_
                  exact ih2 v29 σ27 (by omega) (fun k_ j_ h_ => by rw [hfσ27 k_ j_ (fun w_ => h_ (w_.elim (fun x0_ => dk_wrr (lo := 46) (hi := 74) x0_ (by decide) (by decide)) (fun y0_ => y0_.elim (fun x1_ => dk_wr (lo := 46) (hi := 74) x1_ (by decide)) (fun y1_ => dk_wr (lo := 46) (hi := 74) y1_ (by decide))))), hF2 k_ j_ (fun w_ => h_ (w_))]) (by omega)
                · cases q20
                  refine dk_aload_n (pc' := 131) hE dX6_gather_130 rfl rfl rfl ?_
                  refine gf_6_3 (pc' := 134) (w := 69) hE fl_X6_25 dX6_gather_131 is_45 rfl rfl ?_
                  refine dk_iload (pc' := 136) hE dX6_gather_134 rfl rfl ?_
                  refine dk_dup2 (pc' := 137) hE dX6_gather_136 (show (0 : Nat) ≠ 3 by decide) (show (4 : Nat) ≠ 3 by decide) rfl ?_
                  refine ga_42 (pc' := 138) hE dX6_gather_137 is_69 (by omega) rfl (fun v30 hv30 htv30 hbv30 => ?_)
                  refine dk_aload_n (pc' := 139) hE dX6_gather_138 rfl rfl rfl ?_
                  refine gf_6_12 (pc' := 142) hE fl_X6_58 dX6_gather_139 is_45 rfl (fun v31 hv31 htv31 hbv31 => ?_)
                  have hq31 : v12 = v31 := (show v31 = v12 by rw [hv31, hv12]).symm
                  subst hq31
                  clear htv31 hbv31
                  refine dk_aload_n (pc' := 143) hE dX6_gather_142 rfl rfl rfl ?_
                  refine gf_1_4 (pc' := 146) (w := 42) hE fl_X6_102 dX6_gather_143 is_37 rfl rfl ?_
                  refine dk_iload_n (pc' := 147) hE dX6_gather_146 rfl rfl rfl ?_
                  refine ga_34 (pc' := 148) hE dX6_gather_147 is_42 (by omega) rfl (fun v32 hv32 htv32 hbv32 => ?_)
                  refine dk_icmp_gt (tgt := 155) (pc' := 151) hE dX6_gather_148 (by decide) rfl (fun hc33 => ?_) (fun hc33 => ?_)
                  · skip
                    refine dk_iconst (pc' := 156) hE dX6_gather_155 (by decide) rfl ?_
                    refine dk_ior (pc' := 157) hE dX6_gather_156 rfl (fun v34 hv34 ev34 => ?_)
                    have hxv34 := dk_or01 (x := v30) (y := 0) (by omega) (by omega) ev34
                    refine pa_42 (pc' := 158) hE dX6_gather_157 is_69 (by omega) (by omega) trivial rfl (fun σ35 eσ35 => ?_)
                    refine dk_goto (tgt := 172) hE dX6_gather_158 (by decide) ?_
                    obtain ⟨v36, hv36⟩ : ∃ z : Int, z = i + 1 := ⟨_, rfl⟩
                    refine dk_iinc (pc' := 175) (ls' := [(4, 45), (4, 37), (0, k), (0, v36), (0, v14), (0, v11)]) hE dX6_gather_172 rfl hv36.symm (by omega) rfl (by decide) rfl ?_
                    refine dk_goto (tgt := 2) hE dX6_gather_175 (by decide) ?_
                    refine dk_drop (ls' := [(4, 45), (4, 37), (0, k), (0, v36), (9, 0), (9, 0)]) [true, true, true, true, false, false] rfl ?_
                    exact ih2 v36 σ35 (by omega) (fun k_ j_ h_ => by rw [eσ35, dk_up_n (show ¬ (k_ = 69 ∧ j_ = v14) from fun q_ => h_ (dk_wr (lo := 46) (hi := 74) q_.1 (by decide))), hF2 k_ j_ (fun w_ => h_ (w_))]) (by omega)
                  · skip
                    refine dk_iconst (pc' := 152) hE dX6_gather_151 (by decide) rfl ?_
                    refine dk_goto (tgt := 156) hE dX6_gather_152 (by decide) ?_
                    refine dk_ior (pc' := 157) hE dX6_gather_156 rfl (fun v37 hv37 ev37 => ?_)
                    have hxv37 := dk_or01 (x := v30) (y := 1) (by omega) (by omega) ev37
                    refine pa_42 (pc' := 158) hE dX6_gather_157 is_69 (by omega) (by omega) trivial rfl (fun σ38 eσ38 => ?_)
                    refine dk_goto (tgt := 172) hE dX6_gather_158 (by decide) ?_
                    obtain ⟨v39, hv39⟩ : ∃ z : Int, z = i + 1 := ⟨_, rfl⟩
                    refine dk_iinc (pc' := 175) (ls' := [(4, 45), (4, 37), (0, k), (0, v39), (0, v14), (0, v11)]) hE dX6_gather_172 rfl hv39.symm (by omega) rfl (by decide) rfl ?_
                    refine dk_goto (tgt := 2) hE dX6_gather_175 (by decide) ?_
                    refine dk_drop (ls' := [(4, 45), (4, 37), (0, k), (0, v39), (9, 0), (9, 0)]) [true, true, true, true, false, false] rfl ?_
                    exact ih2 v39 σ38 (by omega) (fun k_ j_ h_ => by rw [eσ38, dk_up_n (show ¬ (k_ = 69 ∧ j_ = v14) from fun q_ => h_ (dk_wr (lo := 46) (hi := 74) q_.1 (by decide))), hF2 k_ j_ (fun w_ => h_ (w_))]) (by omega)
                · cases q20
                  refine dk_aload_n (pc' := 162) hE dX6_gather_161 rfl rfl rfl ?_
                  refine gf_6_4 (pc' := 165) (w := 70) hE fl_X6_29 dX6_gather_162 is_45 rfl rfl ?_
                  refine dk_iload (pc' := 167) hE dX6_gather_165 rfl rfl ?_
                  refine dk_iconst (pc' := 168) hE dX6_gather_167 (by decide) rfl ?_
                  refine pa_43 (pc' := 169) hE dX6_gather_168 is_70 (by omega) (by omega) trivial rfl (fun σ40 eσ40 => ?_)
                  refine dk_goto (tgt := 172) hE dX6_gather_169 (by decide) ?_
                  obtain ⟨v41, hv41⟩ : ∃ z : Int, z = i + 1 := ⟨_, rfl⟩
                  refine dk_iinc (pc' := 175) (ls' := [(4, 45), (4, 37), (0, k), (0, v41), (0, v14), (0, v11)]) hE dX6_gather_172 rfl hv41.symm (by omega) rfl (by decide) rfl ?_
                  refine dk_goto (tgt := 2) hE dX6_gather_175 (by decide) ?_
                  refine dk_drop (ls' := [(4, 45), (4, 37), (0, k), (0, v41), (9, 0), (9, 0)]) [true, true, true, true, false, false] rfl ?_
                  exact ih2 v41 σ40 (by omega) (fun k_ j_ h_ => by rw [eσ40, dk_up_n (show ¬ (k_ = 70 ∧ j_ = v14) from fun q_ => h_ (dk_wr (lo := 46) (hi := 74) q_.1 (by decide))), hF2 k_ j_ (fun w_ => h_ (w_))]) (by omega)
            · skip
              refine dk_goto (tgt := 172) hE dX6_gather_42 (by decide) ?_
              obtain ⟨v42, hv42⟩ : ∃ z : Int, z = i + 1 := ⟨_, rfl⟩
              refine dk_iinc (pc' := 175) (ls' := [(4, 45), (4, 37), (0, k), (0, v42), (9, 0), (9, 0)]) hE dX6_gather_172 rfl hv42.symm (by omega) rfl (by decide) rfl ?_
              refine dk_goto (tgt := 2) hE dX6_gather_175 (by decide) ?_
              exact ih2 v42 σ2c (by omega) (fun k_ j_ h_ => by rw [hF2 k_ j_ (fun w_ => h_ (w_))]) (by omega)
  exact lp2 _ 0 σ (Nat.lt_succ_self _) (fun k_ j_ h_ => rfl) (by omega)
set_option maxHeartbeats 4000000 in
set_option maxRecDepth 20000 in
theorem ct_X6_isKnown (l : Launch) (G : dkG) (hGd : dk_Gd G) (b p : Int) : dk_Ct l G dk_Ty yX6_isKnown cX6_isKnown 3 (some .boolean) 1 190 190 (fun av σ => av = [(4, 45), (0, b), (0, p)] ∧ (0 ≤ b ∧ b < 10) ∧ (0 ≤ p ∧ p < 12)) (fun _ σ r_ σ' => ∃ z : Int, r_ = some (0, z) ∧ (∀ k_ j_ : Int, ¬ (False) → σ' k_ j_ = σ k_ j_) ∧ (0 ≤ z ∧ z ≤ 1)) := by
  refine dk_enter hGd (by decide) (fun av σ hpre hok => ?_)
  obtain ⟨rfl, hb, hp⟩ := hpre
  refine ⟨Nat.le_of_ble_eq_true rfl, fun E hE hR _ => ?_⟩
  have hi_b : dk_i32 b := dk_oki (hok _ (by simp))
  have hi_p : dk_i32 p := dk_oki (hok _ (by simp))
  show dk_PJ E 0 [(4, 45), (0, b), (0, p)] [] 190 σ
  refine dk_aload_n (pc' := 1) hE dX6_isKnown_0 rfl rfl rfl ?_
  refine gf_6_0 (pc' := 4) (w := 46) hE fl_X6_13 dX6_isKnown_1 is_45 rfl rfl ?_
  refine dk_iload_n (pc' := 5) hE dX6_isKnown_4 rfl rfl rfl ?_
  refine ga_37 (pc' := 6) (w := (47 + b)) hE dX6_isKnown_5 is_46 (by omega) (by omega) rfl ?_
  refine dk_iload_n (pc' := 7) hE dX6_isKnown_6 rfl rfl rfl ?_
  refine ga_38 (pc' := 8) hE dX6_isKnown_7 (rw_known (by omega)) (by omega) rfl (fun v1 hv1 htv1 hbv1 => ?_)
  refine dk_iconst (pc' := 9) hE dX6_isKnown_8 (by decide) rfl ?_
  refine dk_icmp_eq (tgt := 16) (pc' := 12) hE dX6_isKnown_9 (by decide) rfl (fun hc2 => ?_) (fun hc2 => ?_)
  · skip
    refine dk_iconst (pc' := 17) hE dX6_isKnown_16 (by decide) rfl ?_
    exact dk_zret (st := []) hE hR dX6_isKnown_17 (by omega) ⟨_, rfl, (fun k_ j_ h_ => rfl), by omega⟩
  · skip
    refine dk_iconst (pc' := 13) hE dX6_isKnown_12 (by decide) rfl ?_
    refine dk_goto (tgt := 17) hE dX6_isKnown_13 (by decide) ?_
    exact dk_zret (st := []) hE hR dX6_isKnown_17 (by omega) ⟨_, rfl, (fun k_ j_ h_ => rfl), by omega⟩
set_option maxHeartbeats 4000000 in
set_option maxRecDepth 20000 in
theorem ct_X6_daysSince (l : Launch) (G : dkG) (hGd : dk_Gd G) (t : Int) : dk_Ct l G dk_Ty yX6_daysSince cX6_daysSince 2 (some .int) 1 190 190 (fun av σ => av = [(4, 45), (0, t)]) (fun _ σ r_ σ' => ∃ z : Int, r_ = some (0, z) ∧ (∀ k_ j_ : Int, ¬ (False) → σ' k_ j_ = σ k_ j_) ∧ (True)) := by
  refine dk_enter hGd (by decide) (fun av σ hpre hok => ?_)
  subst hpre
  refine ⟨Nat.le_of_ble_eq_true rfl, fun E hE hR _ => ?_⟩
  have hi_t : dk_i32 t := dk_oki (hok _ (by simp))
  show dk_PJ E 0 [(4, 45), (0, t)] [] 190 σ
  refine dk_iload_n (pc' := 1) hE dX6_daysSince_0 rfl rfl rfl ?_
  refine dk_iconst (pc' := 2) hE dX6_daysSince_1 (by decide) rfl ?_
  refine dk_icmp_ne (tgt := 11) (pc' := 5) hE dX6_daysSince_2 (by decide) rfl (fun hc1 => ?_) (fun hc1 => ?_)
  · skip
    refine dk_aload_n (pc' := 12) hE dX6_daysSince_11 rfl rfl rfl ?_
    refine gf_6_12 (pc' := 15) hE fl_X6_58 dX6_daysSince_12 is_45 rfl (fun v2 hv2 htv2 hbv2 => ?_)
    refine dk_iload_n (pc' := 16) hE dX6_daysSince_15 rfl rfl rfl ?_
    refine dk_isubW (pc' := 17) hE dX6_daysSince_16 rfl (fun v3 hv3 _ => ?_)
    exact dk_iret (st := []) hE hR dX6_daysSince_17 ⟨_, rfl, (fun k_ j_ h_ => rfl), trivial⟩
  · skip
    refine dk_sipush (pc' := 8) hE dX6_daysSince_5 (by decide) rfl ?_
    refine dk_goto (tgt := 17) hE dX6_daysSince_8 (by decide) ?_
    exact dk_iret (st := []) hE hR dX6_daysSince_17 ⟨_, rfl, (fun k_ j_ h_ => rfl), trivial⟩
set_option maxHeartbeats 4000000 in
set_option maxRecDepth 20000 in
theorem ct_X6_daysKnown (l : Launch) (G : dkG) (hGd : dk_Gd G) (b p : Int) : dk_Ct l G dk_Ty yX6_daysKnown cX6_daysKnown 3 (some .int) 2 190 190 (fun av σ => av = [(4, 45), (0, b), (0, p)] ∧ (0 ≤ b ∧ b < 10) ∧ (0 ≤ p ∧ p < 12)) (fun _ σ r_ σ' => ∃ z : Int, r_ = some (0, z) ∧ (∀ k_ j_ : Int, ¬ (False) → σ' k_ j_ = σ k_ j_) ∧ (True)) := by
  refine dk_enter hGd (by decide) (fun av σ hpre hok => ?_)
  obtain ⟨rfl, hb, hp⟩ := hpre
  refine ⟨Nat.le_of_ble_eq_true rfl, fun E hE hR _ => ?_⟩
  have hi_b : dk_i32 b := dk_oki (hok _ (by simp))
  have hi_p : dk_i32 p := dk_oki (hok _ (by simp))
  show dk_PJ E 0 [(4, 45), (0, b), (0, p)] [] 190 σ
  refine dk_aload_n (pc' := 1) hE dX6_daysKnown_0 rfl rfl rfl ?_
  refine dk_aload_n (pc' := 2) hE dX6_daysKnown_1 rfl rfl rfl ?_
  refine gf_6_0 (pc' := 5) (w := 46) hE fl_X6_13 dX6_daysKnown_2 is_45 rfl rfl ?_
  refine dk_iload_n (pc' := 6) hE dX6_daysKnown_5 rfl rfl rfl ?_
  refine ga_37 (pc' := 7) (w := (47 + b)) hE dX6_daysKnown_6 is_46 (by omega) (by omega) rfl ?_
  refine dk_iload_n (pc' := 8) hE dX6_daysKnown_7 rfl rfl rfl ?_
  refine ga_38 (pc' := 9) hE dX6_daysKnown_8 (rw_known (by omega)) (by omega) rfl (fun v1 hv1 htv1 hbv1 => ?_)
  refine dk_cV (pc' := 12) (as := [(0, v1)]) hE lk_X6_113 (ct_X6_daysSince l G hGd v1) dX6_daysKnown_9 rfl is_45 rfl (by decide) (Nat.le_of_ble_eq_true rfl) rfl rfl (fun r3 σ2 hr3 hor3 => ?_)
  obtain ⟨v4, rfl, hfσ2, hpr3⟩ := hr3
  have hkv4 := dk_oki (hor3 _ rfl)
  have hsσ2 : σ = σ2 := (funext (fun k => funext (fun j => hfσ2 k j not_false))).symm
  subst hsσ2
  exact dk_iret (st := []) hE hR dX6_daysKnown_12 ⟨_, rfl, (fun k_ j_ h_ => rfl), trivial⟩
set_option maxHeartbeats 4000000 in
set_option maxRecDepth 20000 in
theorem ct_X6_daysSinceDanced (l : Launch) (G : dkG) (hGd : dk_Gd G) (b p : Int) : dk_Ct l G dk_Ty yX6_daysSinceDanced cX6_daysSinceDanced 3 (some .int) 2 190 190 (fun av σ => av = [(4, 45), (0, b), (0, p)] ∧ (0 ≤ b ∧ b < 10) ∧ (0 ≤ p ∧ p < 12)) (fun _ σ r_ σ' => ∃ z : Int, r_ = some (0, z) ∧ (∀ k_ j_ : Int, ¬ (False) → σ' k_ j_ = σ k_ j_) ∧ (True)) := by
  refine dk_enter hGd (by decide) (fun av σ hpre hok => ?_)
  obtain ⟨rfl, hb, hp⟩ := hpre
  refine ⟨Nat.le_of_ble_eq_true rfl, fun E hE hR _ => ?_⟩
  have hi_b : dk_i32 b := dk_oki (hok _ (by simp))
  have hi_p : dk_i32 p := dk_oki (hok _ (by simp))
  show dk_PJ E 0 [(4, 45), (0, b), (0, p)] [] 190 σ
  refine dk_aload_n (pc' := 1) hE dX6_daysSinceDanced_0 rfl rfl rfl ?_
  refine dk_aload_n (pc' := 2) hE dX6_daysSinceDanced_1 rfl rfl rfl ?_
  refine gf_6_1 (pc' := 5) (w := 57) hE fl_X6_18 dX6_daysSinceDanced_2 is_45 rfl rfl ?_
  refine dk_iload_n (pc' := 6) hE dX6_daysSinceDanced_5 rfl rfl rfl ?_
  refine ga_39 (pc' := 7) (w := (58 + b)) hE dX6_daysSinceDanced_6 is_57 (by omega) (by omega) rfl ?_
  refine dk_iload_n (pc' := 8) hE dX6_daysSinceDanced_7 rfl rfl rfl ?_
  refine ga_40 (pc' := 9) hE dX6_daysSinceDanced_8 (rw_last (by omega)) (by omega) rfl (fun v1 hv1 htv1 hbv1 => ?_)
  refine dk_cV (pc' := 12) (as := [(0, v1)]) hE lk_X6_113 (ct_X6_daysSince l G hGd v1) dX6_daysSinceDanced_9 rfl is_45 rfl (by decide) (Nat.le_of_ble_eq_true rfl) rfl rfl (fun r3 σ2 hr3 hor3 => ?_)
  obtain ⟨v4, rfl, hfσ2, hpr3⟩ := hr3
  have hkv4 := dk_oki (hor3 _ rfl)
  have hsσ2 : σ = σ2 := (funext (fun k => funext (fun j => hfσ2 k j not_false))).symm
  subst hsσ2
  exact dk_iret (st := []) hE hR dX6_daysSinceDanced_12 ⟨_, rfl, (fun k_ j_ h_ => rfl), trivial⟩
set_option maxHeartbeats 4000000 in
set_option maxRecDepth 20000 in
theorem ct_X6_daysIdle (l : Launch) (G : dkG) (hGd : dk_Gd G) (b : Int) : dk_Ct l G dk_Ty yX6_daysIdle cX6_daysIdle 2 (some .int) 2 190 190 (fun av σ => av = [(4, 45), (0, b)] ∧ (0 ≤ b ∧ b < 10)) (fun _ σ r_ σ' => ∃ z : Int, r_ = some (0, z) ∧ (∀ k_ j_ : Int, ¬ (False) → σ' k_ j_ = σ k_ j_) ∧ (True)) := by
  refine dk_enter hGd (by decide) (fun av σ hpre hok => ?_)
  obtain ⟨rfl, hb⟩ := hpre
  refine ⟨Nat.le_of_ble_eq_true rfl, fun E hE hR _ => ?_⟩
  have hi_b : dk_i32 b := dk_oki (hok _ (by simp))
  show dk_PJ E 0 [(4, 45), (0, b)] [] 190 σ
  refine dk_aload_n (pc' := 1) hE dX6_daysIdle_0 rfl rfl rfl ?_
  refine dk_aload_n (pc' := 2) hE dX6_daysIdle_1 rfl rfl rfl ?_
  refine gf_6_2 (pc' := 5) (w := 68) hE fl_X6_21 dX6_daysIdle_2 is_45 rfl rfl ?_
  refine dk_iload_n (pc' := 6) hE dX6_daysIdle_5 rfl rfl rfl ?_
  refine ga_41 (pc' := 7) hE dX6_daysIdle_6 is_68 (by omega) rfl (fun v1 hv1 htv1 hbv1 => ?_)
  refine dk_cV (pc' := 10) (as := [(0, v1)]) hE lk_X6_113 (ct_X6_daysSince l G hGd v1) dX6_daysIdle_7 rfl is_45 rfl (by decide) (Nat.le_of_ble_eq_true rfl) rfl rfl (fun r3 σ2 hr3 hor3 => ?_)
  obtain ⟨v4, rfl, hfσ2, hpr3⟩ := hr3
  have hkv4 := dk_oki (hor3 _ rfl)
  have hsσ2 : σ = σ2 := (funext (fun k => funext (fun j => hfσ2 k j not_false))).symm
  subst hsσ2
  exact dk_iret (st := []) hE hR dX6_daysIdle_10 ⟨_, rfl, (fun k_ j_ h_ => rfl), trivial⟩
set_option maxHeartbeats 4000000 in
set_option maxRecDepth 20000 in
theorem ct_X6_isReady (l : Launch) (G : dkG) (hGd : dk_Gd G) (b p : Int) : dk_Ct l G dk_Ty yX6_isReady cX6_isReady 3 (some .boolean) 2 190 190 (fun av σ => av = [(4, 45), (0, b), (0, p)] ∧ (0 ≤ b ∧ b < 10) ∧ (0 ≤ p ∧ p < 12)) (fun _ σ r_ σ' => ∃ z : Int, r_ = some (0, z) ∧ (∀ k_ j_ : Int, ¬ (False) → σ' k_ j_ = σ k_ j_) ∧ (0 ≤ z ∧ z ≤ 1)) := by
  refine dk_enter hGd (by decide) (fun av σ hpre hok => ?_)
  obtain ⟨rfl, hb, hp⟩ := hpre
  refine ⟨Nat.le_of_ble_eq_true rfl, fun E hE hR _ => ?_⟩
  have hi_b : dk_i32 b := dk_oki (hok _ (by simp))
  have hi_p : dk_i32 p := dk_oki (hok _ (by simp))
  show dk_PJ E 0 [(4, 45), (0, b), (0, p)] [] 190 σ
  refine dk_aload_n (pc' := 1) hE dX6_isReady_0 rfl rfl rfl ?_
  refine dk_iload_n (pc' := 2) hE dX6_isReady_1 rfl rfl rfl ?_
  refine dk_iload_n (pc' := 3) hE dX6_isReady_2 rfl rfl rfl ?_
  refine dk_cV (pc' := 6) (as := [(0, b), (0, p)]) hE lk_X6_124 (ct_X6_isKnown l G hGd b p) dX6_isReady_3 rfl is_45 rfl (by decide) (Nat.le_of_ble_eq_true rfl) ⟨rfl, (by omega), (by omega)⟩ rfl (fun r2 σ1 hr2 hor2 => ?_)
  obtain ⟨v3, rfl, hfσ1, hpr2⟩ := hr2
  have hsσ1 : σ = σ1 := (funext (fun k => funext (fun j => hfσ1 k j not_false))).symm
  subst hsσ1
  refine dk_if_eq (tgt := 31) (pc' := 9) hE dX6_isReady_6 (by decide) rfl (fun hc4 => ?_) (fun hc4 => ?_)
  · skip
    refine dk_iconst (pc' := 32) hE dX6_isReady_31 (by decide) rfl ?_
    exact dk_zret (st := []) hE hR dX6_isReady_32 (by omega) ⟨_, rfl, (fun k_ j_ h_ => rfl), by omega⟩
  · skip
    refine dk_aload_n (pc' := 10) hE dX6_isReady_9 rfl rfl rfl ?_
    refine gf_6_3 (pc' := 13) (w := 69) hE fl_X6_25 dX6_isReady_10 is_45 rfl rfl ?_
    refine dk_iload_n (pc' := 14) hE dX6_isReady_13 rfl rfl rfl ?_
    refine ga_42 (pc' := 15) hE dX6_isReady_14 is_69 (by omega) rfl (fun v5 hv5 htv5 hbv5 => ?_)
    refine dk_if_ne (tgt := 31) (pc' := 18) hE dX6_isReady_15 (by decide) rfl (fun hc6 => ?_) (fun hc6 => ?_)
    · skip
      refine dk_iconst (pc' := 32) hE dX6_isReady_31 (by decide) rfl ?_
      exact dk_zret (st := []) hE hR dX6_isReady_32 (by omega) ⟨_, rfl, (fun k_ j_ h_ => rfl), by omega⟩
    · skip
      refine dk_aload_n (pc' := 19) hE dX6_isReady_18 rfl rfl rfl ?_
      refine gf_6_4 (pc' := 22) (w := 70) hE fl_X6_29 dX6_isReady_19 is_45 rfl rfl ?_
      refine dk_iload_n (pc' := 23) hE dX6_isReady_22 rfl rfl rfl ?_
      refine ga_43 (pc' := 24) hE dX6_isReady_23 is_70 (by omega) rfl (fun v7 hv7 htv7 hbv7 => ?_)
      refine dk_if_ne (tgt := 31) (pc' := 27) hE dX6_isReady_24 (by decide) rfl (fun hc8 => ?_) (fun hc8 => ?_)
      · skip
        refine dk_iconst (pc' := 32) hE dX6_isReady_31 (by decide) rfl ?_
        exact dk_zret (st := []) hE hR dX6_isReady_32 (by omega) ⟨_, rfl, (fun k_ j_ h_ => rfl), by omega⟩
      · skip
        refine dk_iconst (pc' := 28) hE dX6_isReady_27 (by decide) rfl ?_
        refine dk_goto (tgt := 32) hE dX6_isReady_28 (by decide) ?_
        exact dk_zret (st := []) hE hR dX6_isReady_32 (by omega) ⟨_, rfl, (fun k_ j_ h_ => rfl), by omega⟩
set_option maxHeartbeats 4000000 in
set_option maxRecDepth 20000 in
theorem ct_X6_valueOf (l : Launch) (G : dkG) (hGd : dk_Gd G) (a b p u s : Int) : dk_Ct l G dk_Ty yX6_valueOf cX6_valueOf 5 (some .int) 3 190 190 (fun av σ => av = [(4, 45), (0, a), (0, b), (0, p), (0, u)] ∧ (dk_sc s) ∧ (s = σ 45 9) ∧ (0 ≤ a ∧ a < 3) ∧ (0 ≤ b ∧ b < 10) ∧ (0 ≤ p ∧ p < 12)) (fun _ σ r_ σ' => ∃ z : Int, r_ = some (0, z) ∧ (∀ k_ j_ : Int, ¬ ((72 ≤ k_ ∧ k_ ≤ 73)) → σ' k_ j_ = σ k_ j_) ∧ (True)) := by
  refine dk_enter hGd (by decide) (fun av σ hpre hok => ?_)
  obtain ⟨rfl, hs, h9, ha, hb, hp⟩ := hpre
  refine ⟨Nat.le_of_ble_eq_true rfl, fun E hE hR _ => ?_⟩
  have hi_a : dk_i32 a := dk_oki (hok _ (by simp))
  have hi_b : dk_i32 b := dk_oki (hok _ (by simp))
  have hi_p : dk_i32 p := dk_oki (hok _ (by simp))
  have hi_u : dk_i32 u := dk_oki (hok _ (by simp))
  show dk_PJ E 0 [(4, 45), (0, a), (0, b), (0, p), (0, u)] [] 190 σ
  refine dk_aload_n (pc' := 1) hE dX6_valueOf_0 rfl rfl rfl ?_
  refine gf_6_10 (pc' := 4) hE fl_X6_50 dX6_valueOf_1 is_45 rfl (fun v1 hv1 htv1 hbv1 => ?_)
  refine dk_ifnull (tgt := 18) (pc' := 7) hE dX6_valueOf_4 (by decide) rfl (fun hc2 => ?_) (fun hc2 => ?_)
  · skip
    refine dk_iload (pc' := 20) hE dX6_valueOf_18 rfl rfl ?_
    exact dk_iret (st := []) hE hR dX6_valueOf_20 ⟨_, rfl, (fun k_ j_ h_ => rfl), trivial⟩
  · skip
    refine dk_aload_n (pc' := 8) hE dX6_valueOf_7 rfl rfl rfl ?_
    refine gf_6_10 (pc' := 11) hE fl_X6_50 dX6_valueOf_8 is_45 rfl (fun v3 hv3 htv3 hbv3 => ?_)
    have hq3 : v1 = v3 := (show v3 = v1 by rw [hv3, hv1]).symm
    subst hq3
    clear htv3 hbv3
    refine dk_iload_n (pc' := 12) hE dX6_valueOf_11 rfl rfl rfl ?_
    refine dk_cV (pc' := 15) (as := [(0, a)]) hE lk_X6_127 (ct_X3_tells l G hGd v1 a) dX6_valueOf_12 rfl (ru_is (by omega)) rfl (by decide) (Nat.le_of_ble_eq_true rfl) ⟨rfl, (by omega), (by omega)⟩ rfl (fun r5 σ4 hr5 hor5 => ?_)
    obtain ⟨v6, rfl, hfσ4, hpr5⟩ := hr5
    have hsσ4 : σ = σ4 := (funext (fun k => funext (fun j => hfσ4 k j not_false))).symm
    subst hsσ4
    refine dk_if_ne (tgt := 21) (pc' := 18) hE dX6_valueOf_15 (by decide) rfl (fun hc7 => ?_) (fun hc7 => ?_)
    · skip
      refine dk_aload_n (pc' := 22) hE dX6_valueOf_21 rfl rfl rfl ?_
      refine gf_6_6 (pc' := 25) (w := 72) hE fl_X6_35 dX6_valueOf_22 is_45 rfl rfl ?_
      refine dk_iconst (pc' := 26) hE dX6_valueOf_25 (by decide) rfl ?_
      refine dk_iload_n (pc' := 27) hE dX6_valueOf_26 rfl rfl rfl ?_
      refine pa_45 (pc' := 28) hE dX6_valueOf_27 is_72 (by omega) trivial rfl (fun σ8 eσ8 => ?_)
      refine dk_aload_n (pc' := 29) hE dX6_valueOf_28 rfl rfl rfl ?_
      refine gf_6_6 (pc' := 32) (w := 72) hE fl_X6_35 dX6_valueOf_29 is_45 rfl rfl ?_
      refine dk_iconst (pc' := 33) hE dX6_valueOf_32 (by decide) rfl ?_
      refine dk_iload_n (pc' := 34) hE dX6_valueOf_33 rfl rfl rfl ?_
      refine pa_45 (pc' := 35) hE dX6_valueOf_34 is_72 (by omega) trivial rfl (fun σ9 eσ9 => ?_)
      refine dk_aload_n (pc' := 36) hE dX6_valueOf_35 rfl rfl rfl ?_
      refine gf_6_6 (pc' := 39) (w := 72) hE fl_X6_35 dX6_valueOf_36 is_45 rfl rfl ?_
      refine dk_iconst (pc' := 40) hE dX6_valueOf_39 (by decide) rfl ?_
      refine dk_aload_n (pc' := 41) hE dX6_valueOf_40 rfl rfl rfl ?_
      refine dk_iload_n (pc' := 42) hE dX6_valueOf_41 rfl rfl rfl ?_
      refine dk_iload_n (pc' := 43) hE dX6_valueOf_42 rfl rfl rfl ?_
      refine dk_cV (pc' := 46) (as := [(0, b), (0, p)]) hE lk_X6_131 (ct_X6_daysKnown l G hGd b p) dX6_valueOf_43 rfl is_45 rfl (by decide) (Nat.le_of_ble_eq_true rfl) ⟨rfl, (by omega), (by omega)⟩ rfl (fun r11 σ10 hr11 hor11 => ?_)
      obtain ⟨v12, rfl, hfσ10, hpr11⟩ := hr11
      have hkv12 := dk_oki (hor11 _ rfl)
      have hsσ10 : σ9 = σ10 := (funext (fun k => funext (fun j => hfσ10 k j not_false))).symm
      subst hsσ10
      refine pa_45 (pc' := 47) hE dX6_valueOf_46 is_72 (by omega) trivial rfl (fun σ13 eσ13 => ?_)
      refine dk_aload_n (pc' := 48) hE dX6_valueOf_47 rfl rfl rfl ?_
      refine gf_6_6 (pc' := 51) (w := 72) hE fl_X6_35 dX6_valueOf_48 is_45 rfl rfl ?_
      refine dk_iconst (pc' := 52) hE dX6_valueOf_51 (by decide) rfl ?_
      refine dk_aload_n (pc' := 53) hE dX6_valueOf_52 rfl rfl rfl ?_
      refine dk_iload_n (pc' := 54) hE dX6_valueOf_53 rfl rfl rfl ?_
      refine dk_iload_n (pc' := 55) hE dX6_valueOf_54 rfl rfl rfl ?_
      refine dk_cV (pc' := 58) (as := [(0, b), (0, p)]) hE lk_X6_134 (ct_X6_daysSinceDanced l G hGd b p) dX6_valueOf_55 rfl is_45 rfl (by decide) (Nat.le_of_ble_eq_true rfl) ⟨rfl, (by omega), (by omega)⟩ rfl (fun r15 σ14 hr15 hor15 => ?_)
      obtain ⟨v16, rfl, hfσ14, hpr15⟩ := hr15
      have hkv16 := dk_oki (hor15 _ rfl)
      have hsσ14 : σ13 = σ14 := (funext (fun k => funext (fun j => hfσ14 k j not_false))).symm
      subst hsσ14
      refine pa_45 (pc' := 59) hE dX6_valueOf_58 is_72 (by omega) trivial rfl (fun σ17 eσ17 => ?_)
      refine dk_aload_n (pc' := 60) hE dX6_valueOf_59 rfl rfl rfl ?_
      refine gf_6_6 (pc' := 63) (w := 72) hE fl_X6_35 dX6_valueOf_60 is_45 rfl rfl ?_
      refine dk_iconst (pc' := 64) hE dX6_valueOf_63 (by decide) rfl ?_
      refine dk_aload_n (pc' := 65) hE dX6_valueOf_64 rfl rfl rfl ?_
      refine gf_6_8 (pc' := 68) (w := 74) hE fl_X6_43 dX6_valueOf_65 is_45 rfl rfl ?_
      refine dk_iload_n (pc' := 69) hE dX6_valueOf_68 rfl rfl rfl ?_
      refine ga_47 (pc' := 70) hE dX6_valueOf_69 is_74 (by omega) rfl (fun v18 hv18 htv18 hbv18 => ?_)
      refine pa_45 (pc' := 71) hE dX6_valueOf_70 is_72 (by omega) trivial rfl (fun σ19 eσ19 => ?_)
      refine dk_aload_n (pc' := 72) hE dX6_valueOf_71 rfl rfl rfl ?_
      refine gf_6_6 (pc' := 75) (w := 72) hE fl_X6_35 dX6_valueOf_72 is_45 rfl rfl ?_
      refine dk_iconst (pc' := 76) hE dX6_valueOf_75 (by decide) rfl ?_
      refine dk_aload_n (pc' := 77) hE dX6_valueOf_76 rfl rfl rfl ?_
      refine dk_iload_n (pc' := 78) hE dX6_valueOf_77 rfl rfl rfl ?_
      refine dk_cV (pc' := 81) (as := [(0, b)]) hE lk_X6_137 (ct_X6_daysIdle l G hGd b) dX6_valueOf_78 rfl is_45 rfl (by decide) (Nat.le_of_ble_eq_true rfl) ⟨rfl, (by omega)⟩ rfl (fun r21 σ20 hr21 hor21 => ?_)
      obtain ⟨v22, rfl, hfσ20, hpr21⟩ := hr21
      have hkv22 := dk_oki (hor21 _ rfl)
      have hsσ20 : σ19 = σ20 := (funext (fun k => funext (fun j => hfσ20 k j not_false))).symm
      subst hsσ20
      refine pa_45 (pc' := 82) hE dX6_valueOf_81 is_72 (by omega) trivial rfl (fun σ23 eσ23 => ?_)
      refine dk_aload_n (pc' := 83) hE dX6_valueOf_82 rfl rfl rfl ?_
      refine gf_6_6 (pc' := 86) (w := 72) hE fl_X6_35 dX6_valueOf_83 is_45 rfl rfl ?_
      refine dk_bipush (pc' := 88) hE dX6_valueOf_86 (by decide) rfl ?_
      refine dk_aload_n (pc' := 89) hE dX6_valueOf_88 rfl rfl rfl ?_
      refine gf_6_5 (pc' := 92) (w := 71) hE fl_X6_32 dX6_valueOf_89 is_45 rfl rfl ?_
      refine dk_iload_n (pc' := 93) hE dX6_valueOf_92 rfl rfl rfl ?_
      refine ga_44 (pc' := 94) hE dX6_valueOf_93 is_71 (by omega) rfl (fun v24 hv24 htv24 hbv24 => ?_)
      refine pa_45 (pc' := 95) hE dX6_valueOf_94 is_72 (by omega) trivial rfl (fun σ25 eσ25 => ?_)
      refine dk_aload_n (pc' := 96) hE dX6_valueOf_95 rfl rfl rfl ?_
      refine gf_6_6 (pc' := 99) (w := 72) hE fl_X6_35 dX6_valueOf_96 is_45 rfl rfl ?_
      refine dk_bipush (pc' := 101) hE dX6_valueOf_99 (by decide) rfl ?_
      refine dk_aload_n (pc' := 102) hE dX6_valueOf_101 rfl rfl rfl ?_
      refine gf_6_9 (pc' := 105) hE fl_X6_46 dX6_valueOf_102 is_45 rfl (fun v26 hv26 htv26 hbv26 => ?_)
      have hq26 : s = v26 := (show v26 = s by rw [hv26, eσ25, dk_up_n (show ¬ (45 = 72 ∧ 9 = 6) by omega), eσ23, dk_up_n (show ¬ (45 = 72 ∧ 9 = 5) by omega), eσ19, dk_up_n (show ¬ (45 = 72 ∧ 9 = 4) by omega), eσ17, dk_up_n (show ¬ (45 = 72 ∧ 9 = 3) by omega), eσ13, dk_up_n (show ¬ (45 = 72 ∧ 9 = 2) by omega), eσ9, dk_up_n (show ¬ (45 = 72 ∧ 9 = 1) by omega), eσ8, dk_up_n (show ¬ (45 = 72 ∧ 9 = 0) by omega), h9]).symm
      subst hq26
      clear htv26 hbv26
      refine gf_4_16 (pc' := 108) hE fl_X6_140 dX6_valueOf_105 (sc_is (by omega)) rfl (fun v27 hv27 htv27 hbv27 => ?_)
      refine pa_45 (pc' := 109) hE dX6_valueOf_108 is_72 (by omega) trivial rfl (fun σ28 eσ28 => ?_)
      refine dk_aload_n (pc' := 110) hE dX6_valueOf_109 rfl rfl rfl ?_
      refine gf_6_6 (pc' := 113) (w := 72) hE fl_X6_35 dX6_valueOf_110 is_45 rfl rfl ?_
      refine dk_bipush (pc' := 115) hE dX6_valueOf_113 (by decide) rfl ?_
      refine dk_aload_n (pc' := 116) hE dX6_valueOf_115 rfl rfl rfl ?_
      refine gf_6_12 (pc' := 119) hE fl_X6_58 dX6_valueOf_116 is_45 rfl (fun v29 hv29 htv29 hbv29 => ?_)
      refine pa_45 (pc' := 120) hE dX6_valueOf_119 is_72 (by omega) trivial rfl (fun σ30 eσ30 => ?_)
      refine dk_aload_n (pc' := 121) hE dX6_valueOf_120 rfl rfl rfl ?_
      refine gf_6_6 (pc' := 124) (w := 72) hE fl_X6_35 dX6_valueOf_121 is_45 rfl rfl ?_
      refine dk_bipush (pc' := 126) hE dX6_valueOf_124 (by decide) rfl ?_
      refine dk_aload_n (pc' := 127) hE dX6_valueOf_126 rfl rfl rfl ?_
      refine gf_6_9 (pc' := 130) hE fl_X6_46 dX6_valueOf_127 is_45 rfl (fun v31 hv31 htv31 hbv31 => ?_)
      have hq31 : s = v31 := (show v31 = s by rw [hv31, eσ30, dk_up_n (show ¬ (45 = 72 ∧ 9 = 8) by omega), eσ28, dk_up_n (show ¬ (45 = 72 ∧ 9 = 7) by omega), hv26]).symm
      subst hq31
      clear htv31 hbv31
      refine gf_4_5 (pc' := 133) (w := (s + 17)) hE fl_X6_143 dX6_valueOf_130 (sc_is (by omega)) rfl rfl ?_
      refine dk_iload_n (pc' := 134) hE dX6_valueOf_133 rfl rfl rfl ?_
      refine ga_64 (pc' := 135) hE dX6_valueOf_134 (sc_17 hs) (by omega) rfl (fun v32 hv32 htv32 hbv32 => ?_)
      refine pa_45 (pc' := 136) hE dX6_valueOf_135 is_72 (by omega) trivial rfl (fun σ33 eσ33 => ?_)
      refine dk_aload_n (pc' := 137) hE dX6_valueOf_136 rfl rfl rfl ?_
      refine gf_6_10 (pc' := 140) hE fl_X6_50 dX6_valueOf_137 is_45 rfl (fun v34 hv34 htv34 hbv34 => ?_)
      have hq34 : v1 = v34 := (show v34 = v1 by rw [hv34, eσ33, dk_up_n (show ¬ (45 = 72 ∧ 10 = 9) by omega), eσ30, dk_up_n (show ¬ (45 = 72 ∧ 10 = 8) by omega), eσ28, dk_up_n (show ¬ (45 = 72 ∧ 10 = 7) by omega), eσ25, dk_up_n (show ¬ (45 = 72 ∧ 10 = 6) by omega), eσ23, dk_up_n (show ¬ (45 = 72 ∧ 10 = 5) by omega), eσ19, dk_up_n (show ¬ (45 = 72 ∧ 10 = 4) by omega), eσ17, dk_up_n (show ¬ (45 = 72 ∧ 10 = 3) by omega), eσ13, dk_up_n (show ¬ (45 = 72 ∧ 10 = 2) by omega), eσ9, dk_up_n (show ¬ (45 = 72 ∧ 10 = 1) by omega), eσ8, dk_up_n (show ¬ (45 = 72 ∧ 10 = 0) by omega), hv3]).symm
      subst hq34
      clear htv34 hbv34
      refine dk_iload_n (pc' := 141) hE dX6_valueOf_140 rfl rfl rfl ?_
      refine dk_aload_n (pc' := 142) hE dX6_valueOf_141 rfl rfl rfl ?_
      refine gf_6_6 (pc' := 145) (w := 72) hE fl_X6_35 dX6_valueOf_142 is_45 rfl rfl ?_
      refine dk_aload_n (pc' := 146) hE dX6_valueOf_145 rfl rfl rfl ?_
      refine gf_6_7 (pc' := 149) (w := 73) hE fl_X6_40 dX6_valueOf_146 is_45 rfl rfl ?_
      refine dk_cV (pc' := 152) (as := [(0, a), (4, 72), (4, 73)]) hE lk_X6_145 (ct_X3_value l G hGd v1 a) dX6_valueOf_149 rfl (ru_is (by omega)) rfl (by decide) (Nat.le_of_ble_eq_true rfl) ⟨rfl, (by omega), (by omega)⟩ rfl (fun r36 σ35 hr36 hor36 => ?_)
      obtain ⟨v37, rfl, hfσ35, hpr36⟩ := hr36
      have hkv37 := dk_oki (hor36 _ rfl)
      exact dk_iret (st := []) hE hR dX6_valueOf_152 ⟨_, rfl, (fun k_ j_ h_ => by rw [hfσ35 k_ j_ (fun w_ => h_ (dk_wr (lo := 72) (hi := 73) w_ (by decide))), eσ33, dk_up_n (show ¬ (k_ = 72 ∧ j_ = 9) from fun q_ => h_ (dk_wr (lo := 72) (hi := 73) q_.1 (by decide))), eσ30, dk_up_n (show ¬ (k_ = 72 ∧ j_ = 8) from fun q_ => h_ (dk_wr (lo := 72) (hi := 73) q_.1 (by decide))), eσ28, dk_up_n (show ¬ (k_ = 72 ∧ j_ = 7) from fun q_ => h_ (dk_wr (lo := 72) (hi := 73) q_.1 (by decide))), eσ25, dk_up_n (show ¬ (k_ = 72 ∧ j_ = 6) from fun q_ => h_ (dk_wr (lo := 72) (hi := 73) q_.1 (by decide))), eσ23, dk_up_n (show ¬ (k_ = 72 ∧ j_ = 5) from fun q_ => h_ (dk_wr (lo := 72) (hi := 73) q_.1 (by decide))), eσ19, dk_up_n (show ¬ (k_ = 72 ∧ j_ = 4) from fun q_ => h_ (dk_wr (lo := 72) (hi := 73) q_.1 (by decide))), eσ17, dk_up_n (show ¬ (k_ = 72 ∧ j_ = 3) from fun q_ => h_ (dk_wr (lo := 72) (hi := 73) q_.1 (by decide))), eσ13, dk_up_n (show ¬ (k_ = 72 ∧ j_ = 2) from fun q_ => h_ (dk_wr (lo := 72) (hi := 73) q_.1 (by decide))), eσ9, dk_up_n (show ¬ (k_ = 72 ∧ j_ = 1) from fun q_ => h_ (dk_wr (lo := 72) (hi := 73) q_.1 (by decide))), eσ8, dk_up_n (show ¬ (k_ = 72 ∧ j_ = 0) from fun q_ => h_ (dk_wr (lo := 72) (hi := 73) q_.1 (by decide)))]), trivial⟩
    · skip
      refine dk_iload (pc' := 20) hE dX6_valueOf_18 rfl rfl ?_
      exact dk_iret (st := []) hE hR dX6_valueOf_20 ⟨_, rfl, (fun k_ j_ h_ => rfl), trivial⟩
set_option maxHeartbeats 4000000 in
set_option maxRecDepth 20000 in
theorem ct_X6_isFit (l : Launch) (G : dkG) (hGd : dk_Gd G) (b p s : Int) : dk_Ct l G dk_Ty yX6_isFit cX6_isFit 3 (some .boolean) 4 190 190 (fun av σ => av = [(4, 45), (0, b), (0, p)] ∧ (dk_sc s) ∧ (s = σ 45 9) ∧ (0 ≤ b ∧ b < 10) ∧ (0 ≤ p ∧ p < 12)) (fun _ σ r_ σ' => ∃ z : Int, r_ = some (0, z) ∧ (∀ k_ j_ : Int, ¬ ((72 ≤ k_ ∧ k_ ≤ 73)) → σ' k_ j_ = σ k_ j_) ∧ (0 ≤ z ∧ z ≤ 1)) := by
  refine dk_enter hGd (by decide) (fun av σ hpre hok => ?_)
  obtain ⟨rfl, hs, h9, hb, hp⟩ := hpre
  refine ⟨Nat.le_of_ble_eq_true rfl, fun E hE hR _ => ?_⟩
  have hi_b : dk_i32 b := dk_oki (hok _ (by simp))
  have hi_p : dk_i32 p := dk_oki (hok _ (by simp))
  show dk_PJ E 0 [(4, 45), (0, b), (0, p)] [] 190 σ
  refine dk_aload_n (pc' := 1) hE dX6_isFit_0 rfl rfl rfl ?_
  refine dk_iload_n (pc' := 2) hE dX6_isFit_1 rfl rfl rfl ?_
  refine dk_iload_n (pc' := 3) hE dX6_isFit_2 rfl rfl rfl ?_
  refine dk_cV (pc' := 6) (as := [(0, b), (0, p)]) hE lk_X6_117 (ct_X6_isReady l G hGd b p) dX6_isFit_3 rfl is_45 rfl (by decide) (Nat.le_of_ble_eq_true rfl) ⟨rfl, (by omega), (by omega)⟩ rfl (fun r2 σ1 hr2 hor2 => ?_)
  obtain ⟨v3, rfl, hfσ1, hpr2⟩ := hr2
  have hsσ1 : σ = σ1 := (funext (fun k => funext (fun j => hfσ1 k j not_false))).symm
  subst hsσ1
  refine dk_if_eq (tgt := 24) (pc' := 9) hE dX6_isFit_6 (by decide) rfl (fun hc4 => ?_) (fun hc4 => ?_)
  · skip
    refine dk_iconst (pc' := 25) hE dX6_isFit_24 (by decide) rfl ?_
    exact dk_zret (st := []) hE hR dX6_isFit_25 (by omega) ⟨_, rfl, (fun k_ j_ h_ => rfl), by omega⟩
  · skip
    refine dk_aload_n (pc' := 10) hE dX6_isFit_9 rfl rfl rfl ?_
    refine dk_iconst (pc' := 11) hE dX6_isFit_10 (by decide) rfl ?_
    refine dk_iload_n (pc' := 12) hE dX6_isFit_11 rfl rfl rfl ?_
    refine dk_iload_n (pc' := 13) hE dX6_isFit_12 rfl rfl rfl ?_
    refine dk_iconst (pc' := 14) hE dX6_isFit_13 (by decide) rfl ?_
    refine dk_cV (pc' := 17) (as := [(0, 0), (0, b), (0, p), (0, 1)]) hE lk_X6_120 (ct_X6_valueOf l G hGd 0 b p 1 s) dX6_isFit_14 rfl is_45 rfl (by decide) (Nat.le_of_ble_eq_true rfl) ⟨rfl, (by omega), (by omega), (by omega), (by omega), (by omega)⟩ rfl (fun r6 σ5 hr6 hor6 => ?_)
    obtain ⟨v7, rfl, hfσ5, hpr6⟩ := hr6
    have hkv7 := dk_oki (hor6 _ rfl)
    refine dk_if_eq (tgt := 24) (pc' := 20) hE dX6_isFit_17 (by decide) rfl (fun hc8 => ?_) (fun hc8 => ?_)
    · skip
      refine dk_iconst (pc' := 25) hE dX6_isFit_24 (by decide) rfl ?_
      exact dk_zret (st := []) hE hR dX6_isFit_25 (by omega) ⟨_, rfl, (fun k_ j_ h_ => by rw [hfσ5 k_ j_ (fun w_ => h_ (w_))]), by omega⟩
    · skip
      refine dk_iconst (pc' := 21) hE dX6_isFit_20 (by decide) rfl ?_
      refine dk_goto (tgt := 25) hE dX6_isFit_21 (by decide) ?_
      exact dk_zret (st := []) hE hR dX6_isFit_25 (by omega) ⟨_, rfl, (fun k_ j_ h_ => by rw [hfσ5 k_ j_ (fun w_ => h_ (w_))]), by omega⟩
set_option maxHeartbeats 4000000 in
set_option maxRecDepth 20000 in
theorem ct_X6_price (l : Launch) (G : dkG) (hGd : dk_Gd G) (b p s : Int) : dk_Ct l G dk_Ty yX6_price cX6_price 3 (some .int) 4 190 190 (fun av σ => av = [(4, 45), (0, b), (0, p)] ∧ (dk_sc s) ∧ (s = σ 45 9) ∧ (0 ≤ b ∧ b < 10) ∧ (0 ≤ p ∧ p < 12)) (fun _ σ r_ σ' => ∃ z : Int, r_ = some (0, z) ∧ (∀ k_ j_ : Int, ¬ ((72 ≤ k_ ∧ k_ ≤ 73)) → σ' k_ j_ = σ k_ j_) ∧ (True)) := by
  refine dk_enter hGd (by decide) (fun av σ hpre hok => ?_)
  obtain ⟨rfl, hs, h9, hb, hp⟩ := hpre
  refine ⟨Nat.le_of_ble_eq_true rfl, fun E hE hR _ => ?_⟩
  have hi_b : dk_i32 b := dk_oki (hok _ (by simp))
  have hi_p : dk_i32 p := dk_oki (hok _ (by simp))
  show dk_PJ E 0 [(4, 45), (0, b), (0, p)] [] 190 σ
  refine dk_aload_n (pc' := 1) hE dX6_price_0 rfl rfl rfl ?_
  refine dk_iconst (pc' := 2) hE dX6_price_1 (by decide) rfl ?_
  refine dk_iload_n (pc' := 3) hE dX6_price_2 rfl rfl rfl ?_
  refine dk_iload_n (pc' := 4) hE dX6_price_3 rfl rfl rfl ?_
  refine dk_iconst (pc' := 5) hE dX6_price_4 (by decide) rfl ?_
  refine dk_cV (pc' := 8) (as := [(0, 2), (0, b), (0, p), (0, 0)]) hE lk_X6_120 (ct_X6_valueOf l G hGd 2 b p 0 s) dX6_price_5 rfl is_45 rfl (by decide) (Nat.le_of_ble_eq_true rfl) ⟨rfl, (by omega), (by omega), (by omega), (by omega), (by omega)⟩ rfl (fun r2 σ1 hr2 hor2 => ?_)
  obtain ⟨v3, rfl, hfσ1, hpr2⟩ := hr2
  have hkv3 := dk_oki (hor2 _ rfl)
  exact dk_iret (st := []) hE hR dX6_price_8 ⟨_, rfl, (fun k_ j_ h_ => by rw [hfσ1 k_ j_ (fun w_ => h_ (w_))]), trivial⟩
set_option maxHeartbeats 4000000 in
set_option maxRecDepth 20000 in
theorem ct_X6_hasTeacher (l : Launch) (G : dkG) (hGd : dk_Gd G) (q p s : Int) : dk_Ct l G dk_Ty yX6_hasTeacher cX6_hasTeacher 4 (some .boolean) 4 190 190 (fun av σ => av = [(4, 45), (0, q), (0, p)] ∧ (dk_sc s) ∧ (s = σ 45 9) ∧ (0 ≤ p ∧ p < 12)) (fun _ σ r_ σ' => ∃ z : Int, r_ = some (0, z) ∧ (∀ k_ j_ : Int, ¬ ((72 ≤ k_ ∧ k_ ≤ 73)) → σ' k_ j_ = σ k_ j_) ∧ (0 ≤ z ∧ z ≤ 1)) := by
  refine dk_enter hGd (by decide) (fun av σ hpre hok => ?_)
  obtain ⟨rfl, hs, h9, hp⟩ := hpre
  refine ⟨Nat.le_of_ble_eq_true rfl, fun E hE hR _ => ?_⟩
  have hi_q : dk_i32 q := dk_oki (hok _ (by simp))
  have hi_p : dk_i32 p := dk_oki (hok _ (by simp))
  show dk_PJ E 0 [(4, 45), (0, q), (0, p), (9, 0)] [] 190 σ
  refine dk_iconst (pc' := 1) hE dX6_hasTeacher_0 (by decide) rfl ?_
  refine dk_istore_n (pc' := 2) (ls' := [(4, 45), (0, q), (0, p), (0, 0)]) hE dX6_hasTeacher_1 rfl rfl (by decide) rfl ?_
  have lp2 : ∀ (N_ : Nat) (b : Int) (σ2c : dkS), (2147483648 - b).toNat < N_ → ((∀ k_ j_ : Int, ¬ ((72 ≤ k_ ∧ k_ ≤ 73)) → σ2c k_ j_ = σ k_ j_)) → (0 ≤ b) → dk_PJ E 2 [(4, 45), (0, q), (0, p), (0, b)] [] 190 σ2c := by
    intro N2
    induction N2 with
    | zero => intro b σ2c hm; exact absurd hm (Nat.not_lt_zero _)
    | succ N2 ih2 =>
      intro b σ2c hm2 hF2 hb
      refine dk_iload_n (pc' := 3) hE dX6_hasTeacher_2 rfl rfl rfl ?_
      refine dk_aload_n (pc' := 4) hE dX6_hasTeacher_3 rfl rfl rfl ?_
      refine gf_6_11 (pc' := 7) hE fl_X6_54 dX6_hasTeacher_4 is_45 rfl (fun v1 hv1 htv1 hbv1 => ?_)
      refine dk_icmp_ge (tgt := 43) (pc' := 10) hE dX6_hasTeacher_7 (by decide) rfl (fun hc2 => ?_) (fun hc2 => ?_)
      · skip
        refine dk_iconst (pc' := 44) hE dX6_hasTeacher_43 (by decide) rfl ?_
        exact dk_zret (st := []) hE hR dX6_hasTeacher_44 (by omega) ⟨_, rfl, (fun k_ j_ h_ => by rw [hF2 k_ j_ (fun w_ => h_ (w_))]), by omega⟩
      · skip
        refine dk_iload_n (pc' := 11) hE dX6_hasTeacher_10 rfl rfl rfl ?_
        refine dk_iload_n (pc' := 12) hE dX6_hasTeacher_11 rfl rfl rfl ?_
        refine dk_icmp_eq (tgt := 37) (pc' := 15) hE dX6_hasTeacher_12 (by decide) rfl (fun hc3 => ?_) (fun hc3 => ?_)
        · skip
          obtain ⟨v4, hv4⟩ : ∃ z : Int, z = b + 1 := ⟨_, rfl⟩
          refine dk_iinc (pc' := 40) (ls' := [(4, 45), (0, q), (0, p), (0, v4)]) hE dX6_hasTeacher_37 rfl hv4.symm (by omega) rfl (by decide) rfl ?_
          refine dk_goto (tgt := 2) hE dX6_hasTeacher_40 (by decide) ?_
          exact ih2 v4 σ2c (by omega) (fun k_ j_ h_ => by rw [hF2 k_ j_ (fun w_ => h_ (w_))]) (by omega)
        · skip
          refine dk_aload_n (pc' := 16) hE dX6_hasTeacher_15 rfl rfl rfl ?_
          refine dk_iload_n (pc' := 17) hE dX6_hasTeacher_16 rfl rfl rfl ?_
          refine dk_iload_n (pc' := 18) hE dX6_hasTeacher_17 rfl rfl rfl ?_
          refine dk_cV (pc' := 21) (as := [(0, b), (0, p)]) hE lk_X6_117 (ct_X6_isReady l G hGd b p) dX6_hasTeacher_18 rfl is_45 rfl (by decide) (Nat.le_of_ble_eq_true rfl) ⟨rfl, (by omega), (by omega)⟩ rfl (fun r6 σ5 hr6 hor6 => ?_)
          obtain ⟨v7, rfl, hfσ5, hpr6⟩ := hr6
          have hsσ5 : σ2c = σ5 := (funext (fun k => funext (fun j => hfσ5 k j not_false))).symm
          subst hsσ5
          refine dk_if_eq (tgt := 37) (pc' := 24) hE dX6_hasTeacher_21 (by decide) rfl (fun hc8 => ?_) (fun hc8 => ?_)
          · skip
            obtain ⟨v9, hv9⟩ : ∃ z : Int, z = b + 1 := ⟨_, rfl⟩
            refine dk_iinc (pc' := 40) (ls' := [(4, 45), (0, q), (0, p), (0, v9)]) hE dX6_hasTeacher_37 rfl hv9.symm (by omega) rfl (by decide) rfl ?_
            refine dk_goto (tgt := 2) hE dX6_hasTeacher_40 (by decide) ?_
            exact ih2 v9 σ2c (by omega) (fun k_ j_ h_ => by rw [hF2 k_ j_ (fun w_ => h_ (w_))]) (by omega)
          · skip
            refine dk_aload_n (pc' := 25) hE dX6_hasTeacher_24 rfl rfl rfl ?_
            refine dk_iconst (pc' := 26) hE dX6_hasTeacher_25 (by decide) rfl ?_
            refine dk_iload_n (pc' := 27) hE dX6_hasTeacher_26 rfl rfl rfl ?_
            refine dk_iload_n (pc' := 28) hE dX6_hasTeacher_27 rfl rfl rfl ?_
            refine dk_iconst (pc' := 29) hE dX6_hasTeacher_28 (by decide) rfl ?_
            have hz10 : σ2c 45 9 = σ 45 9 := by rw [hF2 45 9 (by omega)]
            refine dk_cV (pc' := 32) (as := [(0, 1), (0, b), (0, p), (0, 1)]) hE lk_X6_120 (ct_X6_valueOf l G hGd 1 b p 1 s) dX6_hasTeacher_29 rfl is_45 rfl (by decide) (Nat.le_of_ble_eq_true rfl) ⟨rfl, (by omega), (by omega), (by omega), (by omega), (by omega)⟩ rfl (fun r12 σ11 hr12 hor12 => ?_)
            obtain ⟨v13, rfl, hfσ11, hpr12⟩ := hr12
            have hkv13 := dk_oki (hor12 _ rfl)
            refine dk_if_eq (tgt := 37) (pc' := 35) hE dX6_hasTeacher_32 (by decide) rfl (fun hc14 => ?_) (fun hc14 => ?_)
            · skip
              obtain ⟨v15, hv15⟩ : ∃ z : Int, z = b + 1 := ⟨_, rfl⟩
              refine dk_iinc (pc' := 40) (ls' := [(4, 45), (0, q), (0, p), (0, v15)]) hE dX6_hasTeacher_37 rfl hv15.symm (by omega) rfl (by decide) rfl ?_
              refine dk_goto (tgt := 2) hE dX6_hasTeacher_40 (by decide) ?_
              exact ih2 v15 σ11 (by omega) (fun k_ j_ h_ => by rw [hfσ11 k_ j_ (fun w_ => h_ (w_)), hF2 k_ j_ (fun w_ => h_ (w_))]) (by omega)
            · skip
              refine dk_iconst (pc' := 36) hE dX6_hasTeacher_35 (by decide) rfl ?_
              exact dk_zret (st := []) hE hR dX6_hasTeacher_36 (by omega) ⟨_, rfl, (fun k_ j_ h_ => by rw [hfσ11 k_ j_ (fun w_ => h_ (w_)), hF2 k_ j_ (fun w_ => h_ (w_))]), by omega⟩
  exact lp2 _ 0 σ (Nat.lt_succ_self _) (fun k_ j_ h_ => rfl) (by omega)
set_option maxHeartbeats 4000000 in
set_option maxRecDepth 20000 in
theorem ct_X6_hoursToLearn (l : Launch) (G : dkG) (hGd : dk_Gd G) (b p s : Int) : dk_Ct l G dk_Ty yX6_hoursToLearn cX6_hoursToLearn 5 (some .int) 3 190 190 (fun av σ => av = [(4, 45), (0, b), (0, p)] ∧ (GI σ) ∧ (dk_sc s) ∧ (s = σ 45 9) ∧ (0 ≤ b ∧ b < 10) ∧ (0 ≤ p ∧ p < 12)) (fun _ σ r_ σ' => ∃ z : Int, r_ = some (0, z) ∧ (∀ k_ j_ : Int, ¬ (False) → σ' k_ j_ = σ k_ j_) ∧ (True)) := by
  refine dk_enter hGd (by decide) (fun av σ hpre hok => ?_)
  obtain ⟨rfl, hG, hs, h9, hb, hp⟩ := hpre
  refine ⟨Nat.le_of_ble_eq_true rfl, fun E hE hR _ => ?_⟩
  have hi_b : dk_i32 b := dk_oki (hok _ (by simp))
  have hi_p : dk_i32 p := dk_oki (hok _ (by simp))
  show dk_PJ E 0 [(4, 45), (0, b), (0, p), (9, 0), (9, 0)] [] 190 σ
  refine dk_iconst (pc' := 1) hE dX6_hoursToLearn_0 (by decide) rfl ?_
  refine dk_istore_n (pc' := 2) (ls' := [(4, 45), (0, b), (0, p), (0, 0), (9, 0)]) hE dX6_hoursToLearn_1 rfl rfl (by decide) rfl ?_
  refine dk_iconst (pc' := 3) hE dX6_hoursToLearn_2 (by decide) rfl ?_
  refine dk_istore (pc' := 5) (ls' := [(4, 45), (0, b), (0, p), (0, 0), (0, 0)]) hE dX6_hoursToLearn_3 rfl (by decide) rfl ?_
  have lp5 : ∀ (N_ : Nat) (m i : Int) (σ5c : dkS), (2147483648 - i).toNat < N_ → ((∀ k_ j_ : Int, ¬ (False) → σ5c k_ j_ = σ k_ j_)) → (0 ≤ i) → (0 ≤ m ∧ m ≤ 32) → dk_PJ E 5 [(4, 45), (0, b), (0, p), (0, m), (0, i)] [] 190 σ5c := by
    intro N5
    induction N5 with
    | zero => intro m i σ5c hm; exact absurd hm (Nat.not_lt_zero _)
    | succ N5 ih5 =>
      intro m i σ5c hm5 hF5 hi hm
      refine dk_iload (pc' := 7) hE dX6_hoursToLearn_5 rfl rfl ?_
      refine dk_aload_n (pc' := 8) hE dX6_hoursToLearn_7 rfl rfl rfl ?_
      refine gf_6_9 (pc' := 11) hE fl_X6_46 dX6_hoursToLearn_8 is_45 rfl (fun v1 hv1 htv1 hbv1 => ?_)
      have hq1 : s = v1 := (show v1 = s by rw [hv1, hF5 45 9 not_false, h9]).symm
      subst hq1
      clear htv1 hbv1
      refine gf_4_12 (pc' := 14) hE fl_X6_67 dX6_hoursToLearn_11 (sc_is (by omega)) rfl (fun v2 hv2 htv2 hbv2 => ?_)
      refine dk_icmp_ge (tgt := 49) (pc' := 17) hE dX6_hoursToLearn_14 (by decide) rfl (fun hc3 => ?_) (fun hc3 => ?_)
      · skip
        refine dk_aload_n (pc' := 50) hE dX6_hoursToLearn_49 rfl rfl rfl ?_
        refine gf_6_9 (pc' := 53) hE fl_X6_46 dX6_hoursToLearn_50 is_45 rfl (fun v4 hv4 htv4 hbv4 => ?_)
        have hq4 : s = v4 := (show v4 = s by rw [hv4, hv1]).symm
        subst hq4
        clear htv4 hbv4
        refine gf_4_5 (pc' := 56) (w := (s + 17)) hE fl_X6_143 dX6_hoursToLearn_53 (sc_is (by omega)) rfl rfl ?_
        refine dk_iload_n (pc' := 57) hE dX6_hoursToLearn_56 rfl rfl rfl ?_
        refine ga_64 (pc' := 58) hE dX6_hoursToLearn_57 (sc_17 hs) (by omega) rfl (fun v5 hv5 htv5 hbv5 => ?_)
        refine dk_iload_n (pc' := 59) hE dX6_hoursToLearn_58 rfl rfl rfl ?_
        obtain ⟨v6, hv6⟩ : ∃ z : Int, z = v5 - m := ⟨_, rfl⟩
        refine dk_isub (pc' := 60) hE dX6_hoursToLearn_59 hv6.symm (by omega) rfl ?_
        exact dk_iret (st := []) hE hR dX6_hoursToLearn_60 ⟨_, rfl, (fun k_ j_ h_ => by rw [hF5 k_ j_ not_false]), trivial⟩
      · skip
        refine dk_aload_n (pc' := 18) hE dX6_hoursToLearn_17 rfl rfl rfl ?_
        refine dk_iload_n (pc' := 19) hE dX6_hoursToLearn_18 rfl rfl rfl ?_
        refine dk_iload (pc' := 21) hE dX6_hoursToLearn_19 rfl rfl ?_
        refine dk_cV (pc' := 24) (as := [(0, b), (0, i)]) hE lk_X6_124 (ct_X6_isKnown l G hGd b i) dX6_hoursToLearn_21 rfl is_45 rfl (by decide) (Nat.le_of_ble_eq_true rfl) ⟨rfl, (by omega), (by omega)⟩ rfl (fun r8 σ7 hr8 hor8 => ?_)
        obtain ⟨v9, rfl, hfσ7, hpr8⟩ := hr8
        have hsσ7 : σ5c = σ7 := (funext (fun k => funext (fun j => hfσ7 k j not_false))).symm
        subst hsσ7
        refine dk_if_eq (tgt := 43) (pc' := 27) hE dX6_hoursToLearn_24 (by decide) rfl (fun hc10 => ?_) (fun hc10 => ?_)
        · skip
          obtain ⟨v11, hv11⟩ : ∃ z : Int, z = i + 1 := ⟨_, rfl⟩
          refine dk_iinc (pc' := 46) (ls' := [(4, 45), (0, b), (0, p), (0, m), (0, v11)]) hE dX6_hoursToLearn_43 rfl hv11.symm (by omega) rfl (by decide) rfl ?_
          refine dk_goto (tgt := 5) hE dX6_hoursToLearn_46 (by decide) ?_
          exact ih5 m v11 σ5c (by omega) (fun k_ j_ h_ => by rw [hF5 k_ j_ not_false]) (by omega) (by omega)
        · skip
          refine dk_iload_n (pc' := 28) hE dX6_hoursToLearn_27 rfl rfl rfl ?_
          refine dk_aload_n (pc' := 29) hE dX6_hoursToLearn_28 rfl rfl rfl ?_
          refine gf_6_9 (pc' := 32) hE fl_X6_46 dX6_hoursToLearn_29 is_45 rfl (fun v12 hv12 htv12 hbv12 => ?_)
          have hq12 : s = v12 := (show v12 = s by rw [hv12, hv1]).symm
          subst hq12
          clear htv12 hbv12
          refine dk_iload_n (pc' := 33) hE dX6_hoursToLearn_32 rfl rfl rfl ?_
          refine dk_iload (pc' := 35) hE dX6_hoursToLearn_33 rfl rfl ?_
          refine dk_iconst (pc' := 36) hE dX6_hoursToLearn_35 (by decide) rfl ?_
          have gi13 : GI σ5c := GI_fr hG (fun k_ j_ h_ => by rw [hF5 k_ j_ not_false])
          refine dk_cV (pc' := 39) (as := [(0, p), (0, i), (0, 0)]) hE lk_X6_149 (ct_X4_likeness l G hGd s p i 0) dX6_hoursToLearn_36 rfl (sc_is (by omega)) rfl (by decide) (Nat.le_of_ble_eq_true rfl) ⟨rfl, (by omega), gi13, (by omega), (by omega), (by omega)⟩ rfl (fun r15 σ14 hr15 hor15 => ?_)
          obtain ⟨v16, rfl, hfσ14, hpr15⟩ := hr15
          have hsσ14 : σ5c = σ14 := (funext (fun k => funext (fun j => hfσ14 k j not_false))).symm
          subst hsσ14
          refine dk_mmax (pc' := 42) hE wd_1073 dX6_hoursToLearn_39 (Nat.le_of_ble_eq_true rfl) (by decide) rfl (fun v17 hv17 => ?_)
          refine dk_istore_n (pc' := 43) (ls' := [(4, 45), (0, b), (0, p), (0, v17), (0, i)]) hE dX6_hoursToLearn_42 rfl rfl (by decide) rfl ?_
          obtain ⟨v18, hv18⟩ : ∃ z : Int, z = i + 1 := ⟨_, rfl⟩
          refine dk_iinc (pc' := 46) (ls' := [(4, 45), (0, b), (0, p), (0, v17), (0, v18)]) hE dX6_hoursToLearn_43 rfl hv18.symm (by omega) rfl (by decide) rfl ?_
          refine dk_goto (tgt := 5) hE dX6_hoursToLearn_46 (by decide) ?_
          exact ih5 v17 v18 σ5c (by omega) (fun k_ j_ h_ => by rw [hF5 k_ j_ not_false]) (by omega) (by omega)
  exact lp5 _ 0 0 σ (Nat.lt_succ_self _) (fun k_ j_ h_ => rfl) (by omega) (by omega)
set_option maxHeartbeats 4000000 in
set_option maxRecDepth 20000 in
theorem ct_X6_isKept (l : Launch) (G : dkG) (hGd : dk_Gd G) (p : Int) : dk_Ct l G dk_Ty yX6_isKept cX6_isKept 3 (some .boolean) 2 190 190 (fun av σ => av = [(4, 45), (0, p)] ∧ (0 ≤ p ∧ p < 12)) (fun _ σ r_ σ' => ∃ z : Int, r_ = some (0, z) ∧ (∀ k_ j_ : Int, ¬ (False) → σ' k_ j_ = σ k_ j_) ∧ (0 ≤ z ∧ z ≤ 1)) := by
  refine dk_enter hGd (by decide) (fun av σ hpre hok => ?_)
  obtain ⟨rfl, hp⟩ := hpre
  refine ⟨Nat.le_of_ble_eq_true rfl, fun E hE hR _ => ?_⟩
  have hi_p : dk_i32 p := dk_oki (hok _ (by simp))
  show dk_PJ E 0 [(4, 45), (0, p), (9, 0)] [] 190 σ
  refine dk_iconst (pc' := 1) hE dX6_isKept_0 (by decide) rfl ?_
  refine dk_istore_n (pc' := 2) (ls' := [(4, 45), (0, p), (0, 0)]) hE dX6_isKept_1 rfl rfl (by decide) rfl ?_
  have lp2 : ∀ (N_ : Nat) (b : Int) (σ2c : dkS), (2147483648 - b).toNat < N_ → ((∀ k_ j_ : Int, ¬ (False) → σ2c k_ j_ = σ k_ j_)) → (0 ≤ b) → dk_PJ E 2 [(4, 45), (0, p), (0, b)] [] 190 σ2c := by
    intro N2
    induction N2 with
    | zero => intro b σ2c hm; exact absurd hm (Nat.not_lt_zero _)
    | succ N2 ih2 =>
      intro b σ2c hm2 hF2 hb
      refine dk_iload_n (pc' := 3) hE dX6_isKept_2 rfl rfl rfl ?_
      refine dk_aload_n (pc' := 4) hE dX6_isKept_3 rfl rfl rfl ?_
      refine gf_6_11 (pc' := 7) hE fl_X6_54 dX6_isKept_4 is_45 rfl (fun v1 hv1 htv1 hbv1 => ?_)
      refine dk_icmp_ge (tgt := 36) (pc' := 10) hE dX6_isKept_7 (by decide) rfl (fun hc2 => ?_) (fun hc2 => ?_)
      · skip
        refine dk_iconst (pc' := 37) hE dX6_isKept_36 (by decide) rfl ?_
        exact dk_zret (st := []) hE hR dX6_isKept_37 (by omega) ⟨_, rfl, (fun k_ j_ h_ => by rw [hF2 k_ j_ not_false]), by omega⟩
      · skip
        refine dk_aload_n (pc' := 11) hE dX6_isKept_10 rfl rfl rfl ?_
        refine dk_iload_n (pc' := 12) hE dX6_isKept_11 rfl rfl rfl ?_
        refine dk_iload_n (pc' := 13) hE dX6_isKept_12 rfl rfl rfl ?_
        refine dk_cV (pc' := 16) (as := [(0, b), (0, p)]) hE lk_X6_124 (ct_X6_isKnown l G hGd b p) dX6_isKept_13 rfl is_45 rfl (by decide) (Nat.le_of_ble_eq_true rfl) ⟨rfl, (by omega), (by omega)⟩ rfl (fun r4 σ3 hr4 hor4 => ?_)
        obtain ⟨v5, rfl, hfσ3, hpr4⟩ := hr4
        have hsσ3 : σ2c = σ3 := (funext (fun k => funext (fun j => hfσ3 k j not_false))).symm
        subst hsσ3
        refine dk_if_eq (tgt := 30) (pc' := 19) hE dX6_isKept_16 (by decide) rfl (fun hc6 => ?_) (fun hc6 => ?_)
        · skip
          obtain ⟨v7, hv7⟩ : ∃ z : Int, z = b + 1 := ⟨_, rfl⟩
          refine dk_iinc (pc' := 33) (ls' := [(4, 45), (0, p), (0, v7)]) hE dX6_isKept_30 rfl hv7.symm (by omega) rfl (by decide) rfl ?_
          refine dk_goto (tgt := 2) hE dX6_isKept_33 (by decide) ?_
          exact ih2 v7 σ2c (by omega) (fun k_ j_ h_ => by rw [hF2 k_ j_ not_false]) (by omega)
        · skip
          refine dk_aload_n (pc' := 20) hE dX6_isKept_19 rfl rfl rfl ?_
          refine gf_6_4 (pc' := 23) (w := 70) hE fl_X6_29 dX6_isKept_20 is_45 rfl rfl ?_
          refine dk_iload_n (pc' := 24) hE dX6_isKept_23 rfl rfl rfl ?_
          refine ga_43 (pc' := 25) hE dX6_isKept_24 is_70 (by omega) rfl (fun v8 hv8 htv8 hbv8 => ?_)
          refine dk_if_ne (tgt := 30) (pc' := 28) hE dX6_isKept_25 (by decide) rfl (fun hc9 => ?_) (fun hc9 => ?_)
          · skip
            obtain ⟨v10, hv10⟩ : ∃ z : Int, z = b + 1 := ⟨_, rfl⟩
            refine dk_iinc (pc' := 33) (ls' := [(4, 45), (0, p), (0, v10)]) hE dX6_isKept_30 rfl hv10.symm (by omega) rfl (by decide) rfl ?_
            refine dk_goto (tgt := 2) hE dX6_isKept_33 (by decide) ?_
            exact ih2 v10 σ2c (by omega) (fun k_ j_ h_ => by rw [hF2 k_ j_ not_false]) (by omega)
          · skip
            refine dk_iconst (pc' := 29) hE dX6_isKept_28 (by decide) rfl ?_
            exact dk_zret (st := []) hE hR dX6_isKept_29 (by omega) ⟨_, rfl, (fun k_ j_ h_ => by rw [hF2 k_ j_ not_false]), by omega⟩
  exact lp2 _ 0 σ (Nat.lt_succ_self _) (fun k_ j_ h_ => rfl) (by omega)
set_option maxHeartbeats 4000000 in
set_option maxRecDepth 20000 in
theorem ct_X6_missing (l : Launch) (G : dkG) (hGd : dk_Gd G) (w s : Int) : dk_Ct l G dk_Ty yX6_missing cX6_missing 5 (some .int) 3 190 190 (fun av σ => av = [(4, 45), (0, w)] ∧ (GI σ) ∧ (dk_sc s) ∧ (s = σ 45 9) ∧ (0 ≤ w ∧ w < 4)) (fun _ σ r_ σ' => ∃ z : Int, r_ = some (0, z) ∧ (∀ k_ j_ : Int, ¬ (False) → σ' k_ j_ = σ k_ j_) ∧ (True)) := by
  refine dk_enter hGd (by decide) (fun av σ hpre hok => ?_)
  obtain ⟨rfl, hG, hs, h9, hw⟩ := hpre
  refine ⟨Nat.le_of_ble_eq_true rfl, fun E hE hR _ => ?_⟩
  have hi_w : dk_i32 w := dk_oki (hok _ (by simp))
  show dk_PJ E 0 [(4, 45), (0, w), (9, 0), (9, 0), (9, 0)] [] 190 σ
  refine dk_iconst (pc' := 1) hE dX6_missing_0 (by decide) rfl ?_
  refine dk_istore_n (pc' := 2) (ls' := [(4, 45), (0, w), (0, 0), (9, 0), (9, 0)]) hE dX6_missing_1 rfl rfl (by decide) rfl ?_
  refine dk_iconst (pc' := 3) hE dX6_missing_2 (by decide) rfl ?_
  refine dk_istore_n (pc' := 4) (ls' := [(4, 45), (0, w), (0, 0), (0, 0), (9, 0)]) hE dX6_missing_3 rfl rfl (by decide) rfl ?_
  have lp4 : ∀ (N_ : Nat) (m i : Int) (σ4c : dkS), (2147483648 - i).toNat < N_ → ((∀ k_ j_ : Int, ¬ (False) → σ4c k_ j_ = σ k_ j_)) → (0 ≤ i) → (dk_i32 m) → dk_PJ E 4 [(4, 45), (0, w), (0, m), (0, i), (9, 0)] [] 190 σ4c := by
    intro N4
    induction N4 with
    | zero => intro m i σ4c hm; exact absurd hm (Nat.not_lt_zero _)
    | succ N4 ih4 =>
      intro m i σ4c hm4 hF4 hi hm
      refine dk_iload_n (pc' := 5) hE dX6_missing_4 rfl rfl rfl ?_
      refine dk_aload_n (pc' := 6) hE dX6_missing_5 rfl rfl rfl ?_
      refine gf_6_9 (pc' := 9) hE fl_X6_46 dX6_missing_6 is_45 rfl (fun v1 hv1 htv1 hbv1 => ?_)
      have hq1 : s = v1 := (show v1 = s by rw [hv1, hF4 45 9 not_false, h9]).symm
      subst hq1
      clear htv1 hbv1
      refine gf_4_10 (pc' := 12) (w := (s + 22)) hE fl_X6_159 dX6_missing_9 (sc_is (by omega)) rfl rfl ?_
      refine dk_iload_n (pc' := 13) hE dX6_missing_12 rfl rfl rfl ?_
      refine ga_69 (pc' := 14) hE dX6_missing_13 (sc_22 hs) (by omega) rfl (fun v2 hv2 htv2 hbv2 => ?_)
      refine dk_icmp_ge (tgt := 65) (pc' := 17) hE dX6_missing_14 (by decide) rfl (fun hc3 => ?_) (fun hc3 => ?_)
      · skip
        refine dk_iload_n (pc' := 66) hE dX6_missing_65 rfl rfl rfl ?_
        exact dk_iret (st := []) hE hR dX6_missing_66 ⟨_, rfl, (fun k_ j_ h_ => by rw [hF4 k_ j_ not_false]), trivial⟩
      · skip
        refine dk_aload_n (pc' := 18) hE dX6_missing_17 rfl rfl rfl ?_
        refine gf_6_9 (pc' := 21) hE fl_X6_46 dX6_missing_18 is_45 rfl (fun v4 hv4 htv4 hbv4 => ?_)
        have hq4 : s = v4 := (show v4 = s by rw [hv4, hv1]).symm
        subst hq4
        clear htv4 hbv4
        refine gf_4_9 (pc' := 24) (w := (s + 21)) hE fl_X6_162 dX6_missing_21 (sc_is (by omega)) rfl rfl ?_
        refine dk_iload_n (pc' := 25) hE dX6_missing_24 rfl rfl rfl ?_
        refine ga_68 (pc' := 26) hE dX6_missing_25 (sc_21 hs) (by omega) rfl (fun v5 hv5 htv5 hbv5 => ?_)
        have gi6 : GI σ4c := GI_fr hG (fun k_ j_ h_ => by rw [hF4 k_ j_ not_false])
        have gv5 := (GI.of gi6 hs).2.1 w hw.1 hw.2
        refine dk_iload_n (pc' := 27) hE dX6_missing_26 rfl rfl rfl ?_
        obtain ⟨v7, hv7⟩ : ∃ z : Int, z = v5 + i := ⟨_, rfl⟩
        refine dk_iadd (pc' := 28) hE dX6_missing_27 hv7.symm (by omega) rfl ?_
        refine dk_istore (pc' := 30) (ls' := [(4, 45), (0, w), (0, m), (0, i), (0, v7)]) hE dX6_missing_28 rfl (by decide) rfl ?_
        refine dk_aload_n (pc' := 31) hE dX6_missing_30 rfl rfl rfl ?_
        refine gf_6_9 (pc' := 34) hE fl_X6_46 dX6_missing_31 is_45 rfl (fun v8 hv8 htv8 hbv8 => ?_)
        have hq8 : s = v8 := (show v8 = s by rw [hv8, hv4]).symm
        subst hq8
        clear htv8 hbv8
        refine gf_4_8 (pc' := 37) (w := (s + 20)) hE fl_X6_165 dX6_missing_34 (sc_is (by omega)) rfl rfl ?_
        refine dk_iload (pc' := 39) hE dX6_missing_37 rfl rfl ?_
        refine ga_67 (pc' := 40) hE dX6_missing_39 (sc_20 hs) (by omega) rfl (fun v9 hv9 htv9 hbv9 => ?_)
        refine dk_if_ne (tgt := 59) (pc' := 43) hE dX6_missing_40 (by decide) rfl (fun hc10 => ?_) (fun hc10 => ?_)
        · skip
          obtain ⟨v11, hv11⟩ : ∃ z : Int, z = i + 1 := ⟨_, rfl⟩
          refine dk_iinc (pc' := 62) (ls' := [(4, 45), (0, w), (0, m), (0, v11), (0, v7)]) hE dX6_missing_59 rfl hv11.symm (by omega) rfl (by decide) rfl ?_
          refine dk_goto (tgt := 4) hE dX6_missing_62 (by decide) ?_
          refine dk_drop (ls' := [(4, 45), (0, w), (0, m), (0, v11), (9, 0)]) [true, true, true, true, false] rfl ?_
          exact ih4 m v11 σ4c (by omega) (fun k_ j_ h_ => by rw [hF4 k_ j_ not_false]) (by omega) (by omega)
        · skip
          refine dk_aload_n (pc' := 44) hE dX6_missing_43 rfl rfl rfl ?_
          refine dk_iload (pc' := 46) hE dX6_missing_44 rfl rfl ?_
          refine dk_cV (pc' := 49) (as := [(0, v7)]) hE lk_X6_168 (ct_X6_isKept l G hGd v7) dX6_missing_46 rfl is_45 rfl (by decide) (Nat.le_of_ble_eq_true rfl) ⟨rfl, (by omega)⟩ rfl (fun r13 σ12 hr13 hor13 => ?_)
          obtain ⟨v14, rfl, hfσ12, hpr13⟩ := hr13
          have hsσ12 : σ4c = σ12 := (funext (fun k => funext (fun j => hfσ12 k j not_false))).symm
          subst hsσ12
          refine dk_if_ne (tgt := 59) (pc' := 52) hE dX6_missing_49 (by decide) rfl (fun hc15 => ?_) (fun hc15 => ?_)
          · skip
            obtain ⟨v16, hv16⟩ : ∃ z : Int, z = i + 1 := ⟨_, rfl⟩
            refine dk_iinc (pc' := 62) (ls' := [(4, 45), (0, w), (0, m), (0, v16), (0, v7)]) hE dX6_missing_59 rfl hv16.symm (by omega) rfl (by decide) rfl ?_
            refine dk_goto (tgt := 4) hE dX6_missing_62 (by decide) ?_
            refine dk_drop (ls' := [(4, 45), (0, w), (0, m), (0, v16), (9, 0)]) [true, true, true, true, false] rfl ?_
            exact ih4 m v16 σ4c (by omega) (fun k_ j_ h_ => by rw [hF4 k_ j_ not_false]) (by omega) (by omega)
          · skip
            refine dk_iload_n (pc' := 53) hE dX6_missing_52 rfl rfl rfl ?_
            refine dk_iconst (pc' := 54) hE dX6_missing_53 (by decide) rfl ?_
            refine dk_iload (pc' := 56) hE dX6_missing_54 rfl rfl ?_
            refine dk_ishl (pc' := 57) hE dX6_missing_56 rfl (fun v17 hv17 ev17 => ?_)
            refine dk_ior (pc' := 58) hE dX6_missing_57 rfl (fun v18 hv18 ev18 => ?_)
            refine dk_istore_n (pc' := 59) (ls' := [(4, 45), (0, w), (0, v18), (0, i), (0, v7)]) hE dX6_missing_58 rfl rfl (by decide) rfl ?_
            obtain ⟨v19, hv19⟩ : ∃ z : Int, z = i + 1 := ⟨_, rfl⟩
            refine dk_iinc (pc' := 62) (ls' := [(4, 45), (0, w), (0, v18), (0, v19), (0, v7)]) hE dX6_missing_59 rfl hv19.symm (by omega) rfl (by decide) rfl ?_
            refine dk_goto (tgt := 4) hE dX6_missing_62 (by decide) ?_
            refine dk_drop (ls' := [(4, 45), (0, w), (0, v18), (0, v19), (9, 0)]) [true, true, true, true, false] rfl ?_
            exact ih4 v18 v19 σ4c (by omega) (fun k_ j_ h_ => by rw [hF4 k_ j_ not_false]) (by omega) (by omega)
  exact lp4 _ 0 0 σ (Nat.lt_succ_self _) (fun k_ j_ h_ => rfl) (by omega) (by omega)
set_option maxHeartbeats 4000000 in
set_option maxRecDepth 20000 in
theorem ct_X6_living (l : Launch) (G : dkG) (hGd : dk_Gd G) (a s : Int) : dk_Ct l G dk_Ty yX6_living cX6_living 4 (some .int) 4 190 190 (fun av σ => av = [(4, 45), (0, a)] ∧ (GI σ) ∧ (dk_sc s) ∧ (s = σ 45 9)) (fun _ σ r_ σ' => ∃ z : Int, r_ = some (0, z) ∧ (∀ k_ j_ : Int, ¬ (False) → σ' k_ j_ = σ k_ j_) ∧ (True)) := by
  refine dk_enter hGd (by decide) (fun av σ hpre hok => ?_)
  obtain ⟨rfl, hG, hs, h9⟩ := hpre
  refine ⟨Nat.le_of_ble_eq_true rfl, fun E hE hR _ => ?_⟩
  have hi_a : dk_i32 a := dk_oki (hok _ (by simp))
  show dk_PJ E 0 [(4, 45), (0, a), (9, 0), (9, 0)] [] 190 σ
  refine dk_iconst (pc' := 1) hE dX6_living_0 (by decide) rfl ?_
  refine dk_istore_n (pc' := 2) (ls' := [(4, 45), (0, a), (0, 0), (9, 0)]) hE dX6_living_1 rfl rfl (by decide) rfl ?_
  refine dk_iconst (pc' := 3) hE dX6_living_2 (by decide) rfl ?_
  refine dk_istore_n (pc' := 4) (ls' := [(4, 45), (0, a), (0, 0), (0, 0)]) hE dX6_living_3 rfl rfl (by decide) rfl ?_
  have lp4 : ∀ (N_ : Nat) (m i : Int) (σ4c : dkS), (2147483648 - i).toNat < N_ → ((∀ k_ j_ : Int, ¬ (False) → σ4c k_ j_ = σ k_ j_)) → (0 ≤ i) → (0 ≤ m ∧ m ≤ i) → dk_PJ E 4 [(4, 45), (0, a), (0, m), (0, i)] [] 190 σ4c := by
    intro N4
    induction N4 with
    | zero => intro m i σ4c hm; exact absurd hm (Nat.not_lt_zero _)
    | succ N4 ih4 =>
      intro m i σ4c hm4 hF4 hi hm
      refine dk_iload_n (pc' := 5) hE dX6_living_4 rfl rfl rfl ?_
      refine dk_aload_n (pc' := 6) hE dX6_living_5 rfl rfl rfl ?_
      refine gf_6_9 (pc' := 9) hE fl_X6_46 dX6_living_6 is_45 rfl (fun v1 hv1 htv1 hbv1 => ?_)
      have hq1 : s = v1 := (show v1 = s by rw [hv1, hF4 45 9 not_false, h9]).symm
      subst hq1
      clear htv1 hbv1
      refine gf_4_11 (pc' := 12) hE fl_X6_153 dX6_living_9 (sc_is (by omega)) rfl (fun v2 hv2 htv2 hbv2 => ?_)
      refine dk_icmp_ge (tgt := 36) (pc' := 15) hE dX6_living_12 (by decide) rfl (fun hc3 => ?_) (fun hc3 => ?_)
      · skip
        refine dk_iload_n (pc' := 37) hE dX6_living_36 rfl rfl rfl ?_
        exact dk_iret (st := []) hE hR dX6_living_37 ⟨_, rfl, (fun k_ j_ h_ => by rw [hF4 k_ j_ not_false]), trivial⟩
      · skip
        refine dk_aload_n (pc' := 16) hE dX6_living_15 rfl rfl rfl ?_
        refine dk_iload_n (pc' := 17) hE dX6_living_16 rfl rfl rfl ?_
        have gi4 : GI σ4c := GI_fr hG (fun k_ j_ h_ => by rw [hF4 k_ j_ not_false])
        have hz5 : σ4c 45 9 = σ 45 9 := by rw [hF4 45 9 not_false]
        refine dk_cV (pc' := 20) (as := [(0, i)]) hE lk_X6_156 (ct_X6_missing l G hGd i s) dX6_living_17 rfl is_45 rfl (by decide) (Nat.le_of_ble_eq_true rfl) ⟨rfl, gi4, (by omega), (by omega), (by omega)⟩ rfl (fun r7 σ6 hr7 hor7 => ?_)
        obtain ⟨v8, rfl, hfσ6, hpr7⟩ := hr7
        have hkv8 := dk_oki (hor7 _ rfl)
        have hsσ6 : σ4c = σ6 := (funext (fun k => funext (fun j => hfσ6 k j not_false))).symm
        subst hsσ6
        refine dk_iload_n (pc' := 21) hE dX6_living_20 rfl rfl rfl ?_
        refine dk_iconst (pc' := 22) hE dX6_living_21 (by decide) rfl ?_
        refine dk_ixor (pc' := 23) hE dX6_living_22 rfl (fun v9 hv9 ev9 => ?_)
        refine dk_iand (pc' := 24) hE dX6_living_23 rfl (fun v10 hv10 ev10 => ?_)
        refine dk_if_ne (tgt := 30) (pc' := 27) hE dX6_living_24 (by decide) rfl (fun hc11 => ?_) (fun hc11 => ?_)
        · skip
          obtain ⟨v12, hv12⟩ : ∃ z : Int, z = i + 1 := ⟨_, rfl⟩
          refine dk_iinc (pc' := 33) (ls' := [(4, 45), (0, a), (0, m), (0, v12)]) hE dX6_living_30 rfl hv12.symm (by omega) rfl (by decide) rfl ?_
          refine dk_goto (tgt := 4) hE dX6_living_33 (by decide) ?_
          exact ih4 m v12 σ4c (by omega) (fun k_ j_ h_ => by rw [hF4 k_ j_ not_false]) (by omega) (by omega)
        · skip
          obtain ⟨v13, hv13⟩ : ∃ z : Int, z = m + 1 := ⟨_, rfl⟩
          refine dk_iinc (pc' := 30) (ls' := [(4, 45), (0, a), (0, v13), (0, i)]) hE dX6_living_27 rfl hv13.symm (by omega) rfl (by decide) rfl ?_
          obtain ⟨v14, hv14⟩ : ∃ z : Int, z = i + 1 := ⟨_, rfl⟩
          refine dk_iinc (pc' := 33) (ls' := [(4, 45), (0, a), (0, v13), (0, v14)]) hE dX6_living_30 rfl hv14.symm (by omega) rfl (by decide) rfl ?_
          refine dk_goto (tgt := 4) hE dX6_living_33 (by decide) ?_
          exact ih4 v13 v14 σ4c (by omega) (fun k_ j_ h_ => by rw [hF4 k_ j_ not_false]) (by omega) (by omega)
  exact lp4 _ 0 0 σ (Nat.lt_succ_self _) (fun k_ j_ h_ => rfl) (by omega) (by omega)
set_option maxHeartbeats 4000000 in
set_option maxRecDepth 20000 in
theorem ct_X6_missingOf (l : Launch) (G : dkG) (hGd : dk_Gd G) (a s : Int) : dk_Ct l G dk_Ty yX6_missingOf cX6_missingOf 4 (some .int) 4 190 190 (fun av σ => av = [(4, 45), (0, a)] ∧ (GI σ) ∧ (dk_sc s) ∧ (s = σ 45 9)) (fun _ σ r_ σ' => ∃ z : Int, r_ = some (0, z) ∧ (∀ k_ j_ : Int, ¬ (False) → σ' k_ j_ = σ k_ j_) ∧ (True)) := by
  refine dk_enter hGd (by decide) (fun av σ hpre hok => ?_)
  obtain ⟨rfl, hG, hs, h9⟩ := hpre
  refine ⟨Nat.le_of_ble_eq_true rfl, fun E hE hR _ => ?_⟩
  have hi_a : dk_i32 a := dk_oki (hok _ (by simp))
  show dk_PJ E 0 [(4, 45), (0, a), (9, 0), (9, 0)] [] 190 σ
  refine dk_iconst (pc' := 1) hE dX6_missingOf_0 (by decide) rfl ?_
  refine dk_istore_n (pc' := 2) (ls' := [(4, 45), (0, a), (0, 0), (9, 0)]) hE dX6_missingOf_1 rfl rfl (by decide) rfl ?_
  refine dk_iconst (pc' := 3) hE dX6_missingOf_2 (by decide) rfl ?_
  refine dk_istore_n (pc' := 4) (ls' := [(4, 45), (0, a), (0, 0), (0, 0)]) hE dX6_missingOf_3 rfl rfl (by decide) rfl ?_
  have lp4 : ∀ (N_ : Nat) (m i : Int) (σ4c : dkS), (2147483648 - i).toNat < N_ → ((∀ k_ j_ : Int, ¬ (False) → σ4c k_ j_ = σ k_ j_)) → (0 ≤ i) → (dk_i32 m) → dk_PJ E 4 [(4, 45), (0, a), (0, m), (0, i)] [] 190 σ4c := by
    intro N4
    induction N4 with
    | zero => intro m i σ4c hm; exact absurd hm (Nat.not_lt_zero _)
    | succ N4 ih4 =>
      intro m i σ4c hm4 hF4 hi hm
      refine dk_iload_n (pc' := 5) hE dX6_missingOf_4 rfl rfl rfl ?_
      refine dk_aload_n (pc' := 6) hE dX6_missingOf_5 rfl rfl rfl ?_
      refine gf_6_9 (pc' := 9) hE fl_X6_46 dX6_missingOf_6 is_45 rfl (fun v1 hv1 htv1 hbv1 => ?_)
      have hq1 : s = v1 := (show v1 = s by rw [hv1, hF4 45 9 not_false, h9]).symm
      subst hq1
      clear htv1 hbv1
      refine gf_4_11 (pc' := 12) hE fl_X6_153 dX6_missingOf_9 (sc_is (by omega)) rfl (fun v2 hv2 htv2 hbv2 => ?_)
      refine dk_icmp_ge (tgt := 37) (pc' := 15) hE dX6_missingOf_12 (by decide) rfl (fun hc3 => ?_) (fun hc3 => ?_)
      · skip
        refine dk_iload_n (pc' := 38) hE dX6_missingOf_37 rfl rfl rfl ?_
        exact dk_iret (st := []) hE hR dX6_missingOf_38 ⟨_, rfl, (fun k_ j_ h_ => by rw [hF4 k_ j_ not_false]), trivial⟩
      · skip
        refine dk_iload_n (pc' := 16) hE dX6_missingOf_15 rfl rfl rfl ?_
        refine dk_iconst (pc' := 17) hE dX6_missingOf_16 (by decide) rfl ?_
        refine dk_iload_n (pc' := 18) hE dX6_missingOf_17 rfl rfl rfl ?_
        refine dk_ishl (pc' := 19) hE dX6_missingOf_18 rfl (fun v4 hv4 ev4 => ?_)
        refine dk_iand (pc' := 20) hE dX6_missingOf_19 rfl (fun v5 hv5 ev5 => ?_)
        refine dk_if_eq (tgt := 31) (pc' := 23) hE dX6_missingOf_20 (by decide) rfl (fun hc6 => ?_) (fun hc6 => ?_)
        · skip
          obtain ⟨v7, hv7⟩ : ∃ z : Int, z = i + 1 := ⟨_, rfl⟩
          refine dk_iinc (pc' := 34) (ls' := [(4, 45), (0, a), (0, m), (0, v7)]) hE dX6_missingOf_31 rfl hv7.symm (by omega) rfl (by decide) rfl ?_
          refine dk_goto (tgt := 4) hE dX6_missingOf_34 (by decide) ?_
          exact ih4 m v7 σ4c (by omega) (fun k_ j_ h_ => by rw [hF4 k_ j_ not_false]) (by omega) (by omega)
        · skip
          refine dk_iload_n (pc' := 24) hE dX6_missingOf_23 rfl rfl rfl ?_
          refine dk_aload_n (pc' := 25) hE dX6_missingOf_24 rfl rfl rfl ?_
          refine dk_iload_n (pc' := 26) hE dX6_missingOf_25 rfl rfl rfl ?_
          have gi8 : GI σ4c := GI_fr hG (fun k_ j_ h_ => by rw [hF4 k_ j_ not_false])
          have hz9 : σ4c 45 9 = σ 45 9 := by rw [hF4 45 9 not_false]
          refine dk_cV (pc' := 29) (as := [(0, i)]) hE lk_X6_156 (ct_X6_missing l G hGd i s) dX6_missingOf_26 rfl is_45 rfl (by decide) (Nat.le_of_ble_eq_true rfl) ⟨rfl, gi8, (by omega), (by omega), (by omega)⟩ rfl (fun r11 σ10 hr11 hor11 => ?_)
          obtain ⟨v12, rfl, hfσ10, hpr11⟩ := hr11
          have hkv12 := dk_oki (hor11 _ rfl)
          have hsσ10 : σ4c = σ10 := (funext (fun k => funext (fun j => hfσ10 k j not_false))).symm
          subst hsσ10
          refine dk_ior (pc' := 30) hE dX6_missingOf_29 rfl (fun v13 hv13 ev13 => ?_)
          refine dk_istore_n (pc' := 31) (ls' := [(4, 45), (0, a), (0, v13), (0, i)]) hE dX6_missingOf_30 rfl rfl (by decide) rfl ?_
          obtain ⟨v14, hv14⟩ : ∃ z : Int, z = i + 1 := ⟨_, rfl⟩
          refine dk_iinc (pc' := 34) (ls' := [(4, 45), (0, a), (0, v13), (0, v14)]) hE dX6_missingOf_31 rfl hv14.symm (by omega) rfl (by decide) rfl ?_
          refine dk_goto (tgt := 4) hE dX6_missingOf_34 (by decide) ?_
          exact ih4 v13 v14 σ4c (by omega) (fun k_ j_ h_ => by rw [hF4 k_ j_ not_false]) (by omega) (by omega)
  exact lp4 _ 0 0 σ (Nat.lt_succ_self _) (fun k_ j_ h_ => rfl) (by omega) (by omega)
set_option maxHeartbeats 4000000 in
set_option maxRecDepth 20000 in
theorem ct_X6_firstNoted (l : Launch) (G : dkG) (hGd : dk_Gd G) (a s : Int) : dk_Ct l G dk_Ty yX6_firstNoted cX6_firstNoted 8 (some .int) 5 190 190 (fun av σ => av = [(4, 45), (0, a)] ∧ (GI σ) ∧ (dk_sc s) ∧ (s = σ 45 9)) (fun _ σ r_ σ' => ∃ z : Int, r_ = some (0, z) ∧ (∀ k_ j_ : Int, ¬ (False) → σ' k_ j_ = σ k_ j_) ∧ (True)) := by
  refine dk_enter hGd (by decide) (fun av σ hpre hok => ?_)
  obtain ⟨rfl, hG, hs, h9⟩ := hpre
  refine ⟨Nat.le_of_ble_eq_true rfl, fun E hE hR _ => ?_⟩
  have hi_a : dk_i32 a := dk_oki (hok _ (by simp))
  show dk_PJ E 0 [(4, 45), (0, a), (9, 0), (9, 0), (9, 0), (9, 0), (9, 0), (9, 0)] [] 190 σ
  refine dk_iconst (pc' := 1) hE dX6_firstNoted_0 (by decide) rfl ?_
  refine dk_istore_n (pc' := 2) (ls' := [(4, 45), (0, a), (0, 0), (9, 0), (9, 0), (9, 0), (9, 0), (9, 0)]) hE dX6_firstNoted_1 rfl rfl (by decide) rfl ?_
  refine dk_aload_n (pc' := 3) hE dX6_firstNoted_2 rfl rfl rfl ?_
  refine dk_iconst (pc' := 4) hE dX6_firstNoted_3 (by decide) rfl ?_
  refine dk_cV (pc' := 7) (as := [(0, 0)]) hE lk_X6_171 (ct_X6_living l G hGd 0 s) dX6_firstNoted_4 rfl is_45 rfl (by decide) (Nat.le_of_ble_eq_true rfl) ⟨rfl, hG, (by omega), (by omega)⟩ rfl (fun r2 σ1 hr2 hor2 => ?_)
  obtain ⟨v3, rfl, hfσ1, hpr2⟩ := hr2
  have hkv3 := dk_oki (hor2 _ rfl)
  have hsσ1 : σ = σ1 := (funext (fun k => funext (fun j => hfσ1 k j not_false))).symm
  subst hsσ1
  refine dk_istore_n (pc' := 8) (ls' := [(4, 45), (0, a), (0, 0), (0, v3), (9, 0), (9, 0), (9, 0), (9, 0)]) hE dX6_firstNoted_7 rfl rfl (by decide) rfl ?_
  refine dk_iconst (pc' := 9) hE dX6_firstNoted_8 (by decide) rfl ?_
  refine dk_istore (pc' := 11) (ls' := [(4, 45), (0, a), (0, 0), (0, v3), (0, 1), (9, 0), (9, 0), (9, 0)]) hE dX6_firstNoted_9 rfl (by decide) rfl ?_
  have lp11 : ∀ (N_ : Nat) (m q i : Int) (σ11c : dkS), (2147483648 - i).toNat < N_ → ((∀ k_ j_ : Int, ¬ (False) → σ11c k_ j_ = σ k_ j_)) → (0 ≤ i) → (dk_i32 m ∧ dk_i32 q) → dk_PJ E 11 [(4, 45), (0, a), (0, m), (0, q), (0, i), (9, 0), (9, 0), (9, 0)] [] 190 σ11c := by
    intro N11
    induction N11 with
    | zero => intro m q i σ11c hm; exact absurd hm (Nat.not_lt_zero _)
    | succ N11 ih11 =>
      intro m q i σ11c hm11 hF11 hi hm
      refine dk_iload (pc' := 13) hE dX6_firstNoted_11 rfl rfl ?_
      refine dk_iconst (pc' := 14) hE dX6_firstNoted_13 (by decide) rfl ?_
      refine dk_aload_n (pc' := 15) hE dX6_firstNoted_14 rfl rfl rfl ?_
      refine gf_6_9 (pc' := 18) hE fl_X6_46 dX6_firstNoted_15 is_45 rfl (fun v4 hv4 htv4 hbv4 => ?_)
      have hq4 : s = v4 := (show v4 = s by rw [hv4, hF11 45 9 not_false, h9]).symm
      subst hq4
      clear htv4 hbv4
      refine gf_4_11 (pc' := 21) hE fl_X6_153 dX6_firstNoted_18 (sc_is (by omega)) rfl (fun v5 hv5 htv5 hbv5 => ?_)
      refine dk_ishl (pc' := 22) hE dX6_firstNoted_21 rfl (fun v6 hv6 ev6 => ?_)
      refine dk_icmp_ge (tgt := 91) (pc' := 25) hE dX6_firstNoted_22 (by decide) rfl (fun hc7 => ?_) (fun hc7 => ?_)
      · skip
        refine dk_iload_n (pc' := 92) hE dX6_firstNoted_91 rfl rfl rfl ?_
        exact dk_iret (st := []) hE hR dX6_firstNoted_92 ⟨_, rfl, (fun k_ j_ h_ => by rw [hF11 k_ j_ not_false]), trivial⟩
      · skip
        refine dk_aload_n (pc' := 26) hE dX6_firstNoted_25 rfl rfl rfl ?_
        refine dk_iload (pc' := 28) hE dX6_firstNoted_26 rfl rfl ?_
        have gi8 : GI σ11c := GI_fr hG (fun k_ j_ h_ => by rw [hF11 k_ j_ not_false])
        have hz9 : σ11c 45 9 = σ 45 9 := by rw [hF11 45 9 not_false]
        refine dk_cV (pc' := 31) (as := [(0, i)]) hE lk_X6_174 (ct_X6_missingOf l G hGd i s) dX6_firstNoted_28 rfl is_45 rfl (by decide) (Nat.le_of_ble_eq_true rfl) ⟨rfl, gi8, (by omega), (by omega)⟩ rfl (fun r11 σ10 hr11 hor11 => ?_)
        obtain ⟨v12, rfl, hfσ10, hpr11⟩ := hr11
        have hkv12 := dk_oki (hor11 _ rfl)
        have hsσ10 : σ11c = σ10 := (funext (fun k => funext (fun j => hfσ10 k j not_false))).symm
        subst hsσ10
        refine dk_istore (pc' := 33) (ls' := [(4, 45), (0, a), (0, m), (0, q), (0, i), (0, v12), (9, 0), (9, 0)]) hE dX6_firstNoted_31 rfl (by decide) rfl ?_
        refine dk_aload_n (pc' := 34) hE dX6_firstNoted_33 rfl rfl rfl ?_
        refine dk_iload (pc' := 36) hE dX6_firstNoted_34 rfl rfl ?_
        have hz13 : σ11c 45 9 = σ 45 9 := by rw [hF11 45 9 not_false]
        refine dk_cV (pc' := 39) (as := [(0, v12)]) hE lk_X6_171 (ct_X6_living l G hGd v12 s) dX6_firstNoted_36 rfl is_45 rfl (by decide) (Nat.le_of_ble_eq_true rfl) ⟨rfl, gi8, (by omega), (by omega)⟩ rfl (fun r15 σ14 hr15 hor15 => ?_)
        obtain ⟨v16, rfl, hfσ14, hpr15⟩ := hr15
        have hkv16 := dk_oki (hor15 _ rfl)
        have hsσ14 : σ11c = σ14 := (funext (fun k => funext (fun j => hfσ14 k j not_false))).symm
        subst hsσ14
        refine dk_istore (pc' := 41) (ls' := [(4, 45), (0, a), (0, m), (0, q), (0, i), (0, v12), (0, v16), (9, 0)]) hE dX6_firstNoted_39 rfl (by decide) rfl ?_
        refine dk_iload_n (pc' := 42) hE dX6_firstNoted_41 rfl rfl rfl ?_
        refine dk_cS (pc' := 45) (as := [(0, m)]) hE lk_X6_177 (ct_J6_bitCount_0f7a4 l G hGd m) dX6_firstNoted_42 rfl rfl (by decide) (Nat.le_of_ble_eq_true rfl) rfl rfl (fun r18 σ17 hr18 hor18 => ?_)
        obtain ⟨v19, rfl, hfσ17, hpr18⟩ := hr18
        have hsσ17 : σ11c = σ17 := (funext (fun k => funext (fun j => hfσ17 k j not_false))).symm
        subst hsσ17
        refine dk_iload (pc' := 47) hE dX6_firstNoted_45 rfl rfl ?_
        refine dk_cS (pc' := 50) (as := [(0, v12)]) hE lk_X6_177 (ct_J6_bitCount_0f7a4 l G hGd v12) dX6_firstNoted_47 rfl rfl (by decide) (Nat.le_of_ble_eq_true rfl) rfl rfl (fun r21 σ20 hr21 hor21 => ?_)
        obtain ⟨v22, rfl, hfσ20, hpr21⟩ := hr21
        have hsσ20 : σ11c = σ20 := (funext (fun k => funext (fun j => hfσ20 k j not_false))).symm
        subst hsσ20
        obtain ⟨v23, hv23⟩ : ∃ z : Int, z = v19 - v22 := ⟨_, rfl⟩
        refine dk_isub (pc' := 51) hE dX6_firstNoted_50 hv23.symm (by omega) rfl ?_
        refine dk_istore (pc' := 53) (ls' := [(4, 45), (0, a), (0, m), (0, q), (0, i), (0, v12), (0, v16), (0, v23)]) hE dX6_firstNoted_51 rfl (by decide) rfl ?_
        refine dk_iload (pc' := 55) hE dX6_firstNoted_53 rfl rfl ?_
        refine dk_cS (pc' := 58) (as := [(0, v12)]) hE lk_X6_177 (ct_J6_bitCount_0f7a4 l G hGd v12) dX6_firstNoted_55 rfl rfl (by decide) (Nat.le_of_ble_eq_true rfl) rfl rfl (fun r25 σ24 hr25 hor25 => ?_)
        obtain ⟨v26, rfl, hfσ24, hpr25⟩ := hr25
        have hsσ24 : σ11c = σ24 := (funext (fun k => funext (fun j => hfσ24 k j not_false))).symm
        subst hsσ24
        refine dk_iload_n (pc' := 59) hE dX6_firstNoted_58 rfl rfl rfl ?_
        refine dk_icmp_gt (tgt := 85) (pc' := 62) hE dX6_firstNoted_59 (by decide) rfl (fun hc27 => ?_) (fun hc27 => ?_)
        · skip
          obtain ⟨v28, hv28⟩ : ∃ z : Int, z = i + 1 := ⟨_, rfl⟩
          refine dk_iinc (pc' := 88) (ls' := [(4, 45), (0, a), (0, m), (0, q), (0, v28), (0, v12), (0, v16), (0, v23)]) hE dX6_firstNoted_85 rfl hv28.symm (by omega) rfl (by decide) rfl ?_
          refine dk_goto (tgt := 11) hE dX6_firstNoted_88 (by decide) ?_
          refine dk_drop (ls' := [(4, 45), (0, a), (0, m), (0, q), (0, v28), (9, 0), (9, 0), (9, 0)]) [true, true, true, true, true, false, false, false] rfl ?_
          exact ih11 m q v28 σ11c (by omega) (fun k_ j_ h_ => by rw [hF11 k_ j_ not_false]) (by omega) (by omega)
        · skip
          refine dk_iload (pc' := 64) hE dX6_firstNoted_62 rfl rfl ?_
          refine dk_iload_n (pc' := 65) hE dX6_firstNoted_64 rfl rfl rfl ?_
          refine dk_icmp_gt (tgt := 79) (pc' := 68) hE dX6_firstNoted_65 (by decide) rfl (fun hc29 => ?_) (fun hc29 => ?_)
          · skip
            refine dk_iload (pc' := 81) hE dX6_firstNoted_79 rfl rfl ?_
            refine dk_istore_n (pc' := 82) (ls' := [(4, 45), (0, a), (0, v12), (0, q), (0, i), (0, v12), (0, v16), (0, v23)]) hE dX6_firstNoted_81 rfl rfl (by decide) rfl ?_
            refine dk_iload (pc' := 84) hE dX6_firstNoted_82 rfl rfl ?_
            refine dk_istore_n (pc' := 85) (ls' := [(4, 45), (0, a), (0, v12), (0, v16), (0, i), (0, v12), (0, v16), (0, v23)]) hE dX6_firstNoted_84 rfl rfl (by decide) rfl ?_
            obtain ⟨v30, hv30⟩ : ∃ z : Int, z = i + 1 := ⟨_, rfl⟩
            refine dk_iinc (pc' := 88) (ls' := [(4, 45), (0, a), (0, v12), (0, v16), (0, v30), (0, v12), (0, v16), (0, v23)]) hE dX6_firstNoted_85 rfl hv30.symm (by omega) rfl (by decide) rfl ?_
            refine dk_goto (tgt := 11) hE dX6_firstNoted_88 (by decide) ?_
            refine dk_drop (ls' := [(4, 45), (0, a), (0, v12), (0, v16), (0, v30), (9, 0), (9, 0), (9, 0)]) [true, true, true, true, true, false, false, false] rfl ?_
            exact ih11 v12 v16 v30 σ11c (by omega) (fun k_ j_ h_ => by rw [hF11 k_ j_ not_false]) (by omega) (by omega)
          · skip
            refine dk_iload (pc' := 70) hE dX6_firstNoted_68 rfl rfl ?_
            refine dk_iload_n (pc' := 71) hE dX6_firstNoted_70 rfl rfl rfl ?_
            refine dk_icmp_ne (tgt := 85) (pc' := 74) hE dX6_firstNoted_71 (by decide) rfl (fun hc31 => ?_) (fun hc31 => ?_)
            · skip
              obtain ⟨v32, hv32⟩ : ∃ z : Int, z = i + 1 := ⟨_, rfl⟩
              refine dk_iinc (pc' := 88) (ls' := [(4, 45), (0, a), (0, m), (0, q), (0, v32), (0, v12), (0, v16), (0, v23)]) hE dX6_firstNoted_85 rfl hv32.symm (by omega) rfl (by decide) rfl ?_
              refine dk_goto (tgt := 11) hE dX6_firstNoted_88 (by decide) ?_
              refine dk_drop (ls' := [(4, 45), (0, a), (0, m), (0, q), (0, v32), (9, 0), (9, 0), (9, 0)]) [true, true, true, true, true, false, false, false] rfl ?_
              exact ih11 m q v32 σ11c (by omega) (fun k_ j_ h_ => by rw [hF11 k_ j_ not_false]) (by omega) (by omega)
            · skip
              refine dk_iload (pc' := 76) hE dX6_firstNoted_74 rfl rfl ?_
              refine dk_if_le (tgt := 85) (pc' := 79) hE dX6_firstNoted_76 (by decide) rfl (fun hc33 => ?_) (fun hc33 => ?_)
              · skip
                obtain ⟨v34, hv34⟩ : ∃ z : Int, z = i + 1 := ⟨_, rfl⟩
                refine dk_iinc (pc' := 88) (ls' := [(4, 45), (0, a), (0, m), (0, q), (0, v34), (0, v12), (0, v16), (0, v23)]) hE dX6_firstNoted_85 rfl hv34.symm (by omega) rfl (by decide) rfl ?_
                refine dk_goto (tgt := 11) hE dX6_firstNoted_88 (by decide) ?_
                refine dk_drop (ls' := [(4, 45), (0, a), (0, m), (0, q), (0, v34), (9, 0), (9, 0), (9, 0)]) [true, true, true, true, true, false, false, false] rfl ?_
                exact ih11 m q v34 σ11c (by omega) (fun k_ j_ h_ => by rw [hF11 k_ j_ not_false]) (by omega) (by omega)
              · skip
                refine dk_iload (pc' := 81) hE dX6_firstNoted_79 rfl rfl ?_
                refine dk_istore_n (pc' := 82) (ls' := [(4, 45), (0, a), (0, v12), (0, q), (0, i), (0, v12), (0, v16), (0, v23)]) hE dX6_firstNoted_81 rfl rfl (by decide) rfl ?_
                refine dk_iload (pc' := 84) hE dX6_firstNoted_82 rfl rfl ?_
                refine dk_istore_n (pc' := 85) (ls' := [(4, 45), (0, a), (0, v12), (0, v16), (0, i), (0, v12), (0, v16), (0, v23)]) hE dX6_firstNoted_84 rfl rfl (by decide) rfl ?_
                obtain ⟨v35, hv35⟩ : ∃ z : Int, z = i + 1 := ⟨_, rfl⟩
                refine dk_iinc (pc' := 88) (ls' := [(4, 45), (0, a), (0, v12), (0, v16), (0, v35), (0, v12), (0, v16), (0, v23)]) hE dX6_firstNoted_85 rfl hv35.symm (by omega) rfl (by decide) rfl ?_
                refine dk_goto (tgt := 11) hE dX6_firstNoted_88 (by decide) ?_
                refine dk_drop (ls' := [(4, 45), (0, a), (0, v12), (0, v16), (0, v35), (9, 0), (9, 0), (9, 0)]) [true, true, true, true, true, false, false, false] rfl ?_
                exact ih11 v12 v16 v35 σ11c (by omega) (fun k_ j_ h_ => by rw [hF11 k_ j_ not_false]) (by omega) (by omega)
  exact lp11 _ 0 v3 1 σ (Nat.lt_succ_self _) (fun k_ j_ h_ => rfl) (by omega) (by omega)
