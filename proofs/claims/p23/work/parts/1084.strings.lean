set_option maxHeartbeats 4000000 in
set_option maxRecDepth 20000 in
theorem c0_J0_coder_7d493 (l : Launch) (G : dkG) (hGd : dk_Gd G) (q : Int) : dk_Ct l G dk_T0 yJ0_coder_7d493 cJ0_coder_7d493 1 (some .byte) 1 8 8 (fun av σ => av = [(4, q)] ∧ (-13 ≤ q ∧ q ≤ -10)) (fun _ σ r_ σ' => ∃ z : Int, r_ = some (0, z) ∧ (∀ k_ j_ : Int, ¬ (False) → σ' k_ j_ = σ k_ j_) ∧ (z = 0)) := by
  refine dk_enter hGd (by decide) (fun av σ hpre hok => ?_)
  obtain ⟨rfl, hq⟩ := hpre
  refine ⟨Nat.le_of_ble_eq_true rfl, fun E hE hR _ => ?_⟩
  show dk_PJ E 0 [(4, q)] [] 8 σ
  refine dk_getsC (pc' := 3) hE wd_163 dJ0_coder_7d493_0 rfl ?_
  refine dk_if_eq (tgt := 13) (pc' := 6) hE dJ0_coder_7d493_3 (by decide) rfl (fun hc1 => absurd hc1 (by decide)) (fun hc1 => ?_)
  refine dk_aload_n (pc' := 7) hE dJ0_coder_7d493_6 rfl rfl rfl ?_
  refine dk_scod (pc' := 10) hE wd_1979 dJ0_coder_7d493_7 (by omega) rfl ?_
  refine dk_goto (tgt := 14) hE dJ0_coder_7d493_10 (by decide) ?_
  exact dk_bret (st := []) hE hR dJ0_coder_7d493_14 (by omega) ⟨_, rfl, (fun k_ j_ h_ => rfl), by omega⟩
set_option maxHeartbeats 4000000 in
set_option maxRecDepth 20000 in
theorem c0_J0_isLatin1_aae02 (l : Launch) (G : dkG) (hGd : dk_Gd G) (q : Int) : dk_Ct l G dk_T0 yJ0_isLatin1_aae02 cJ0_isLatin1_aae02 1 (some .boolean) 1 8 8 (fun av σ => av = [(4, q)] ∧ (-13 ≤ q ∧ q ≤ -10)) (fun _ σ r_ σ' => ∃ z : Int, r_ = some (0, z) ∧ (∀ k_ j_ : Int, ¬ (False) → σ' k_ j_ = σ k_ j_) ∧ (z = 1)) := by
  refine dk_enter hGd (by decide) (fun av σ hpre hok => ?_)
  obtain ⟨rfl, hq⟩ := hpre
  refine ⟨Nat.le_of_ble_eq_true rfl, fun E hE hR _ => ?_⟩
  show dk_PJ E 0 [(4, q)] [] 8 σ
  refine dk_getsC (pc' := 3) hE wd_163 dJ0_isLatin1_aae02_0 rfl ?_
  refine dk_if_eq (tgt := 17) (pc' := 6) hE dJ0_isLatin1_aae02_3 (by decide) rfl (fun hc1 => absurd hc1 (by decide)) (fun hc1 => ?_)
  refine dk_aload_n (pc' := 7) hE dJ0_isLatin1_aae02_6 rfl rfl rfl ?_
  refine dk_scod (pc' := 10) hE wd_1979 dJ0_isLatin1_aae02_7 (by omega) rfl ?_
  refine dk_if_ne (tgt := 17) (pc' := 13) hE dJ0_isLatin1_aae02_10 (by decide) rfl (fun hc2 => absurd hc2 (by decide)) (fun hc2 => ?_)
  refine dk_iconst (pc' := 14) hE dJ0_isLatin1_aae02_13 (by decide) rfl ?_
  refine dk_goto (tgt := 18) hE dJ0_isLatin1_aae02_14 (by decide) ?_
  exact dk_zret (st := []) hE hR dJ0_isLatin1_aae02_18 (by omega) ⟨_, rfl, (fun k_ j_ h_ => rfl), by omega⟩
set_option maxHeartbeats 4000000 in
set_option maxRecDepth 20000 in
theorem c0_J0_length_8abf5 (l : Launch) (G : dkG) (hGd : dk_Gd G) (q : Int) : dk_Ct l G dk_T0 yJ0_length_8abf5 cJ0_length_8abf5 1 (some .int) 2 8 8 (fun av σ => av = [(4, q)] ∧ (-13 ≤ q ∧ q ≤ -10)) (fun _ σ r_ σ' => ∃ z : Int, r_ = some (0, z) ∧ (∀ k_ j_ : Int, ¬ (False) → σ' k_ j_ = σ k_ j_) ∧ (z = dk_sl (q - 10))) := by
  refine dk_enter hGd (by decide) (fun av σ hpre hok => ?_)
  obtain ⟨rfl, hq⟩ := hpre
  refine ⟨Nat.le_of_ble_eq_true rfl, fun E hE hR _ => ?_⟩
  show dk_PJ E 0 [(4, q)] [] 8 σ
  refine dk_aload_n (pc' := 1) hE dJ0_length_8abf5_0 rfl rfl rfl ?_
  refine dk_sval (pc' := 4) hE wd_1978 dJ0_length_8abf5_1 (by omega) rfl ?_
  refine dk_sal (pc' := 5) hE dJ0_length_8abf5_4 (by omega) rfl (fun v1 hv1 => ?_)
  refine dk_aload_n (pc' := 6) hE dJ0_length_8abf5_5 rfl rfl rfl ?_
  refine dk_cW (pc' := 9) (as := []) hE lk_J0_335 (c0_J0_coder_7d493 l G hGd q) dJ0_length_8abf5_6 rfl (by omega) rfl (by decide) (Nat.le_of_ble_eq_true rfl) ⟨rfl, (by omega)⟩ rfl (fun r3 σ2 hr3 hor3 => ?_)
  obtain ⟨v4, rfl, hfσ2, hpr3⟩ := hr3
  have hsσ2 : σ = σ2 := (funext (fun k => funext (fun j => hfσ2 k j not_false))).symm
  subst hsσ2
  refine dk_ishr (pc' := 10) hE dJ0_length_8abf5_9 rfl (fun v5 hv5 ev5 => ?_)
  have hxv5 := dk_shr0 (x := v1) (y := v4) (by have := dk_sl_in (q - 10); omega) (by omega) ev5
  exact dk_iret (st := []) hE hR dJ0_length_8abf5_10 ⟨_, rfl, (fun k_ j_ h_ => rfl), by omega⟩
set_option maxHeartbeats 4000000 in
set_option maxRecDepth 20000 in
theorem c0_J3_checkIndex_8e157 (l : Launch) (G : dkG) (hGd : dk_Gd G) (a b w : Int) : dk_Ct l G dk_T0 yJ3_checkIndex_8e157 cJ3_checkIndex_8e157 3 (some .int) 1 8 8 (fun av σ => av = [(0, a), (0, b), (4, w)] ∧ (0 ≤ a ∧ a < b)) (fun _ σ r_ σ' => ∃ z : Int, r_ = some (0, z) ∧ (∀ k_ j_ : Int, ¬ (False) → σ' k_ j_ = σ k_ j_) ∧ (z = a)) := by
  refine dk_enter hGd (by decide) (fun av σ hpre hok => ?_)
  obtain ⟨rfl, ha⟩ := hpre
  refine ⟨Nat.le_of_ble_eq_true rfl, fun E hE hR _ => ?_⟩
  have hi_a : dk_i32 a := dk_oki (hok _ (by simp))
  have hi_b : dk_i32 b := dk_oki (hok _ (by simp))
  show dk_PJ E 0 [(0, a), (0, b), (4, w)] [] 8 σ
  refine dk_iload_n (pc' := 1) hE dJ3_checkIndex_8e157_0 rfl rfl rfl ?_
  refine dk_if_lt (tgt := 9) (pc' := 4) hE dJ3_checkIndex_8e157_1 (by decide) rfl (fun hc1 => ?_) (fun hc1 => ?_)
  · skip
    exfalso
    omega
  · skip
    refine dk_iload_n (pc' := 5) hE dJ3_checkIndex_8e157_4 rfl rfl rfl ?_
    refine dk_iload_n (pc' := 6) hE dJ3_checkIndex_8e157_5 rfl rfl rfl ?_
    refine dk_icmp_lt (tgt := 16) (pc' := 9) hE dJ3_checkIndex_8e157_6 (by decide) rfl (fun hc2 => ?_) (fun hc2 => ?_)
    · skip
      refine dk_iload_n (pc' := 17) hE dJ3_checkIndex_8e157_16 rfl rfl rfl ?_
      exact dk_iret (st := []) hE hR dJ3_checkIndex_8e157_17 ⟨_, rfl, (fun k_ j_ h_ => rfl), by omega⟩
    · skip
      exfalso
      omega
set_option maxHeartbeats 4000000 in
set_option maxRecDepth 20000 in
theorem c0_J0_checkIndex_df160 (l : Launch) (G : dkG) (hGd : dk_Gd G) (a b : Int) : dk_Ct l G dk_T0 yJ0_checkIndex_df160 cJ0_checkIndex_df160 2 (none) 2 8 8 (fun av σ => av = [(0, a), (0, b)] ∧ (0 ≤ a ∧ a < b)) (fun _ σ r_ σ' => r_ = none ∧ (∀ k_ j_ : Int, ¬ (False) → σ' k_ j_ = σ k_ j_) ∧ (True)) := by
  refine dk_enter hGd (by decide) (fun av σ hpre hok => ?_)
  obtain ⟨rfl, ha⟩ := hpre
  refine ⟨Nat.le_of_ble_eq_true rfl, fun E hE hR _ => ?_⟩
  have hi_a : dk_i32 a := dk_oki (hok _ (by simp))
  have hi_b : dk_i32 b := dk_oki (hok _ (by simp))
  show dk_PJ E 0 [(0, a), (0, b)] [] 8 σ
  refine dk_iload_n (pc' := 1) hE dJ0_checkIndex_df160_0 rfl rfl rfl ?_
  refine dk_iload_n (pc' := 2) hE dJ0_checkIndex_df160_1 rfl rfl rfl ?_
  refine dk_getsF (pc' := 5) hE wd_179 dJ0_checkIndex_df160_2 rfl (fun w1 => ?_)
  refine dk_cS (pc' := 8) (as := [(0, a), (0, b), (4, w1)]) hE lk_J0_1059 (c0_J3_checkIndex_8e157 l G hGd a b w1) dJ0_checkIndex_df160_5 rfl rfl (by decide) (Nat.le_of_ble_eq_true rfl) ⟨rfl, (by omega)⟩ rfl (fun r3 σ2 hr3 hor3 => ?_)
  obtain ⟨v4, rfl, hfσ2, hpr3⟩ := hr3
  have hsσ2 : σ = σ2 := (funext (fun k => funext (fun j => hfσ2 k j not_false))).symm
  subst hsσ2
  refine dk_pop (pc' := 9) hE dJ0_checkIndex_df160_8 (show (0 : Nat) ≠ 3 by decide) rfl ?_
  exact dk_vret (st := []) hE hR dJ0_checkIndex_df160_9 ⟨rfl, (fun k_ j_ h_ => rfl), trivial⟩
set_option maxHeartbeats 4000000 in
set_option maxRecDepth 20000 in
theorem c0_J1_charAt_3b067 (l : Launch) (G : dkG) (hGd : dk_Gd G) (w i : Int) : dk_Ct l G dk_T0 yJ1_charAt_3b067 cJ1_charAt_3b067 2 (some .char) 3 8 8 (fun av σ => av = [(4, w), (0, i)] ∧ (-23 ≤ w ∧ w ≤ -20) ∧ (0 ≤ i ∧ i < dk_sl w)) (fun _ σ r_ σ' => ∃ z : Int, r_ = some (0, z) ∧ (∀ k_ j_ : Int, ¬ (False) → σ' k_ j_ = σ k_ j_) ∧ (0 ≤ z ∧ z ≤ 65535)) := by
  refine dk_enter hGd (by decide) (fun av σ hpre hok => ?_)
  obtain ⟨rfl, hw, hi⟩ := hpre
  refine ⟨Nat.le_of_ble_eq_true rfl, fun E hE hR _ => ?_⟩
  have hi_i : dk_i32 i := dk_oki (hok _ (by simp))
  show dk_PJ E 0 [(4, w), (0, i)] [] 8 σ
  have hsl := dk_sl_in w
  refine dk_iload_n (pc' := 1) hE dJ1_charAt_3b067_0 rfl rfl rfl ?_
  refine dk_aload_n (pc' := 2) hE dJ1_charAt_3b067_1 rfl rfl rfl ?_
  refine dk_sal (pc' := 3) hE dJ1_charAt_3b067_2 (by omega) rfl (fun v1 hv1 => ?_)
  refine dk_cS (pc' := 6) (as := [(0, i), (0, v1)]) hE lk_J1_9 (c0_J0_checkIndex_df160 l G hGd i v1) dJ1_charAt_3b067_3 rfl rfl (by decide) (Nat.le_of_ble_eq_true rfl) ⟨rfl, (by omega)⟩ rfl (fun r3 σ2 hr3 hor3 => ?_)
  obtain ⟨rfl, hfσ2, hpr3⟩ := hr3
  have hsσ2 : σ = σ2 := (funext (fun k => funext (fun j => hfσ2 k j not_false))).symm
  subst hsσ2
  refine dk_aload_n (pc' := 7) hE dJ1_charAt_3b067_6 rfl rfl rfl ?_
  refine dk_iload_n (pc' := 8) hE dJ1_charAt_3b067_7 rfl rfl rfl ?_
  refine dk_sbl (pc' := 9) hE dJ1_charAt_3b067_8 (by omega) (by omega) rfl (fun v4 hbv4 => ?_)
  refine dk_sipush (pc' := 12) hE dJ1_charAt_3b067_9 (by decide) rfl ?_
  refine dk_iand (pc' := 13) hE dJ1_charAt_3b067_12 rfl (fun v5 hv5 ev5 => ?_)
  have hxv5 := dk_and255 ev5
  refine dk_i2c (pc' := 14) hE dJ1_charAt_3b067_13 rfl (fun v6 hv6 ev6 => ?_)
  have hcc := dk_cc16 (by omega) ev6
  exact dk_cret (st := []) hE hR dJ1_charAt_3b067_14 (by omega) ⟨_, rfl, (fun k_ j_ h_ => rfl), by omega⟩
set_option maxHeartbeats 4000000 in
set_option maxRecDepth 20000 in
theorem c0_J0_charAt_5068e (l : Launch) (G : dkG) (hGd : dk_Gd G) (q i : Int) : dk_Ct l G dk_T0 yJ0_charAt_5068e cJ0_charAt_5068e 2 (some .char) 4 8 8 (fun av σ => av = [(4, q), (0, i)] ∧ (-13 ≤ q ∧ q ≤ -10) ∧ (0 ≤ i ∧ i < dk_sl (q - 10))) (fun _ σ r_ σ' => ∃ z : Int, r_ = some (0, z) ∧ (∀ k_ j_ : Int, ¬ (False) → σ' k_ j_ = σ k_ j_) ∧ (0 ≤ z ∧ z ≤ 65535)) := by
  refine dk_enter hGd (by decide) (fun av σ hpre hok => ?_)
  obtain ⟨rfl, hq, hi⟩ := hpre
  refine ⟨Nat.le_of_ble_eq_true rfl, fun E hE hR _ => ?_⟩
  have hi_i : dk_i32 i := dk_oki (hok _ (by simp))
  show dk_PJ E 0 [(4, q), (0, i)] [] 8 σ
  refine dk_aload_n (pc' := 1) hE dJ0_charAt_5068e_0 rfl rfl rfl ?_
  refine dk_cW (pc' := 4) (as := []) hE lk_J0_492 (c0_J0_isLatin1_aae02 l G hGd q) dJ0_charAt_5068e_1 rfl (by omega) rfl (by decide) (Nat.le_of_ble_eq_true rfl) ⟨rfl, (by omega)⟩ rfl (fun r2 σ1 hr2 hor2 => ?_)
  obtain ⟨v3, rfl, hfσ1, hpr2⟩ := hr2
  have hsσ1 : σ = σ1 := (funext (fun k => funext (fun j => hfσ1 k j not_false))).symm
  subst hsσ1
  refine dk_if_eq (tgt := 16) (pc' := 7) hE dJ0_charAt_5068e_4 (by decide) rfl (fun hc4 => ?_) (fun hc4 => ?_)
  · skip
    exfalso
    omega
  · skip
    refine dk_aload_n (pc' := 8) hE dJ0_charAt_5068e_7 rfl rfl rfl ?_
    refine dk_sval (pc' := 11) hE wd_1978 dJ0_charAt_5068e_8 (by omega) rfl ?_
    refine dk_iload_n (pc' := 12) hE dJ0_charAt_5068e_11 rfl rfl rfl ?_
    refine dk_cS (pc' := 15) (as := [(4, (q - 10)), (0, i)]) hE lk_J0_495 (c0_J1_charAt_3b067 l G hGd (q - 10) i) dJ0_charAt_5068e_12 rfl rfl (by decide) (Nat.le_of_ble_eq_true rfl) ⟨rfl, (by omega), (by omega)⟩ rfl (fun r6 σ5 hr6 hor6 => ?_)
    obtain ⟨v7, rfl, hfσ5, hpr6⟩ := hr6
    have hsσ5 : σ = σ5 := (funext (fun k => funext (fun j => hfσ5 k j not_false))).symm
    subst hsσ5
    exact dk_cret (st := []) hE hR dJ0_charAt_5068e_15 (by omega) ⟨_, rfl, (fun k_ j_ h_ => rfl), by omega⟩
set_option maxHeartbeats 4000000 in
set_option maxRecDepth 20000 in
theorem c0_X9_withLetter (l : Launch) (G : dkG) (hGd : dk_Gd G) (a b : Int) : dk_Ct l G dk_T0 yX9_withLetter cX9_withLetter 3 (some .long) 1 8 8 (fun av σ => av = [(3, a), (0, b)]) (fun _ σ r_ σ' => ∃ z : Int, r_ = some (3, z) ∧ (∀ k_ j_ : Int, ¬ (False) → σ' k_ j_ = σ k_ j_) ∧ (True)) := by
  refine dk_enter hGd (by decide) (fun av σ hpre hok => ?_)
  subst hpre
  refine ⟨Nat.le_of_ble_eq_true rfl, fun E hE hR _ => ?_⟩
  have hi_a : dk_i64 a := dk_okl (hok _ (by simp))
  have hi_b : dk_i32 b := dk_oki (hok _ (by simp))
  show dk_PJ E 0 [(3, a), (9, 0), (0, b)] [] 8 σ
  refine dk_lload_n (pc' := 1) hE dX9_withLetter_0 rfl rfl rfl ?_
  refine dk_iconst (pc' := 2) hE dX9_withLetter_1 (by decide) rfl ?_
  refine dk_lshl (pc' := 3) hE dX9_withLetter_2 rfl (fun v1 hv1 => ?_)
  refine dk_iload_n (pc' := 4) hE dX9_withLetter_3 rfl rfl rfl ?_
  refine dk_bipush (pc' := 6) hE dX9_withLetter_4 (by decide) rfl ?_
  refine dk_isubW (pc' := 7) hE dX9_withLetter_6 rfl (fun v2 hv2 _ => ?_)
  refine dk_iconst (pc' := 8) hE dX9_withLetter_7 (by decide) rfl ?_
  refine dk_iaddW (pc' := 9) hE dX9_withLetter_8 rfl (fun v3 hv3 _ => ?_)
  refine dk_i2l (pc' := 10) hE dX9_withLetter_9 rfl ?_
  refine dk_lor (pc' := 11) hE dX9_withLetter_10 rfl (fun v4 hv4 => ?_)
  exact dk_lret (st := []) hE hR dX9_withLetter_11 ⟨_, rfl, (fun k_ j_ h_ => rfl), trivial⟩
