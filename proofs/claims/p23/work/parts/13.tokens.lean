set_option maxHeartbeats 4000000 in
set_option maxRecDepth 20000 in
theorem ct_J0_coder_7d493 (l : Launch) (G : dkG) (hGd : dk_Gd G) (q : Int) : dk_Ct l G dk_Ty yJ0_coder_7d493 cJ0_coder_7d493 1 (some .byte) 1 190 190 (fun av σ => av = [(4, q)] ∧ (-13 ≤ q ∧ q ≤ -10)) (fun _ σ r_ σ' => ∃ z : Int, r_ = some (0, z) ∧ (∀ k_ j_ : Int, ¬ (False) → σ' k_ j_ = σ k_ j_) ∧ (z = 0)) := by
  refine dk_enter hGd (by decide) (fun av σ hpre hok => ?_)
  obtain ⟨rfl, hq⟩ := hpre
  refine ⟨Nat.le_of_ble_eq_true rfl, fun E hE hR _ => ?_⟩
  show dk_PJ E 0 [(4, q)] [] 190 σ
  refine dk_getsC (pc' := 3) hE wd_163 dJ0_coder_7d493_0 rfl ?_
  refine dk_if_eq (tgt := 13) (pc' := 6) hE dJ0_coder_7d493_3 (by decide) rfl (fun hc1 => absurd hc1 (by decide)) (fun hc1 => ?_)
  refine dk_aload_n (pc' := 7) hE dJ0_coder_7d493_6 rfl rfl rfl ?_
  refine dk_scod (pc' := 10) hE wd_1979 dJ0_coder_7d493_7 (by omega) rfl ?_
  refine dk_goto (tgt := 14) hE dJ0_coder_7d493_10 (by decide) ?_
  exact dk_bret (st := []) hE hR dJ0_coder_7d493_14 (by omega) ⟨_, rfl, (fun k_ j_ h_ => rfl), by omega⟩
set_option maxHeartbeats 4000000 in
set_option maxRecDepth 20000 in
theorem ct_J0_isLatin1_aae02 (l : Launch) (G : dkG) (hGd : dk_Gd G) (q : Int) : dk_Ct l G dk_Ty yJ0_isLatin1_aae02 cJ0_isLatin1_aae02 1 (some .boolean) 1 190 190 (fun av σ => av = [(4, q)] ∧ (-13 ≤ q ∧ q ≤ -10)) (fun _ σ r_ σ' => ∃ z : Int, r_ = some (0, z) ∧ (∀ k_ j_ : Int, ¬ (False) → σ' k_ j_ = σ k_ j_) ∧ (z = 1)) := by
  refine dk_enter hGd (by decide) (fun av σ hpre hok => ?_)
  obtain ⟨rfl, hq⟩ := hpre
  refine ⟨Nat.le_of_ble_eq_true rfl, fun E hE hR _ => ?_⟩
  show dk_PJ E 0 [(4, q)] [] 190 σ
  refine dk_getsC (pc' := 3) hE wd_163 dJ0_isLatin1_aae02_0 rfl ?_
  refine dk_if_eq (tgt := 17) (pc' := 6) hE dJ0_isLatin1_aae02_3 (by decide) rfl (fun hc1 => absurd hc1 (by decide)) (fun hc1 => ?_)
  refine dk_aload_n (pc' := 7) hE dJ0_isLatin1_aae02_6 rfl rfl rfl ?_
  refine dk_scod (pc' := 10) hE wd_1979 dJ0_isLatin1_aae02_7 (by omega) rfl ?_
  refine dk_if_ne (tgt := 17) (pc' := 13) hE dJ0_isLatin1_aae02_10 (by decide) rfl (fun hc2 => absurd hc2 (by decide)) (fun hc2 => ?_)
  refine dk_iconst (pc' := 14) hE dJ0_isLatin1_aae02_13 (by decide) rfl ?_
  refine dk_goto (tgt := 18) hE dJ0_isLatin1_aae02_14 (by decide) ?_
  exact dk_zret (st := []) hE hR dJ0_isLatin1_aae02_18 (by omega) ⟨_, rfl, (fun k_ j_ h_ => rfl), by omega⟩
set_option maxHeartbeats 4000000 in
set_option maxRecDepth 20000 in
theorem ct_J0_length_8abf5 (l : Launch) (G : dkG) (hGd : dk_Gd G) (q : Int) : dk_Ct l G dk_Ty yJ0_length_8abf5 cJ0_length_8abf5 1 (some .int) 2 190 190 (fun av σ => av = [(4, q)] ∧ (-13 ≤ q ∧ q ≤ -10)) (fun _ σ r_ σ' => ∃ z : Int, r_ = some (0, z) ∧ (∀ k_ j_ : Int, ¬ (False) → σ' k_ j_ = σ k_ j_) ∧ (z = dk_sl (q - 10))) := by
  refine dk_enter hGd (by decide) (fun av σ hpre hok => ?_)
  obtain ⟨rfl, hq⟩ := hpre
  refine ⟨Nat.le_of_ble_eq_true rfl, fun E hE hR _ => ?_⟩
  show dk_PJ E 0 [(4, q)] [] 190 σ
  refine dk_aload_n (pc' := 1) hE dJ0_length_8abf5_0 rfl rfl rfl ?_
  refine dk_sval (pc' := 4) hE wd_1978 dJ0_length_8abf5_1 (by omega) rfl ?_
  refine dk_sal (pc' := 5) hE dJ0_length_8abf5_4 (by omega) rfl (fun v1 hv1 => ?_)
  refine dk_aload_n (pc' := 6) hE dJ0_length_8abf5_5 rfl rfl rfl ?_
  refine dk_cW (pc' := 9) (as := []) hE lk_J0_335 (ct_J0_coder_7d493 l G hGd q) dJ0_length_8abf5_6 rfl (by omega) rfl (by decide) (Nat.le_of_ble_eq_true rfl) ⟨rfl, (by omega)⟩ rfl (fun r3 σ2 hr3 _ => ?_)
  obtain ⟨v4, rfl, hfσ2, hpr3⟩ := hr3
  have hsσ2 : σ = σ2 := (funext (fun k => funext (fun j => hfσ2 k j not_false))).symm
  subst hsσ2
  refine dk_ishr (pc' := 10) hE dJ0_length_8abf5_9 rfl (fun v5 hv5 ev5 => ?_)
  have hxv5 := dk_shr0 (x := v1) (y := v4) (by have := dk_sl_in (q - 10); omega) (by omega) ev5
  exact dk_iret (st := []) hE hR dJ0_length_8abf5_10 ⟨_, rfl, (fun k_ j_ h_ => rfl), by omega⟩
set_option maxHeartbeats 4000000 in
set_option maxRecDepth 20000 in
theorem ct_J1_canEncode_9a6ad (l : Launch) (G : dkG) (hGd : dk_Gd G) (a : Int) : dk_Ct l G dk_Ty yJ1_canEncode_9a6ad cJ1_canEncode_9a6ad 1 (some .boolean) 1 190 190 (fun av σ => av = [(0, a)]) (fun _ σ r_ σ' => ∃ z : Int, r_ = some (0, z) ∧ (∀ k_ j_ : Int, ¬ (False) → σ' k_ j_ = σ k_ j_) ∧ (0 ≤ z ∧ z ≤ 1)) := by
  refine dk_enter hGd (by decide) (fun av σ hpre hok => ?_)
  subst hpre
  refine ⟨Nat.le_of_ble_eq_true rfl, fun E hE hR _ => ?_⟩
  have hi_a : dk_i32 a := dk_oki (hok _ (by simp))
  show dk_PJ E 0 [(0, a)] [] 190 σ
  refine dk_iload_n (pc' := 1) hE dJ1_canEncode_9a6ad_0 rfl rfl rfl ?_
  refine dk_if_lt (tgt := 15) (pc' := 4) hE dJ1_canEncode_9a6ad_1 (by decide) rfl (fun hc1 => ?_) (fun hc1 => ?_)
  · skip
    refine dk_iconst (pc' := 16) hE dJ1_canEncode_9a6ad_15 (by decide) rfl ?_
    exact dk_zret (st := []) hE hR dJ1_canEncode_9a6ad_16 (by omega) ⟨_, rfl, (fun k_ j_ h_ => rfl), by omega⟩
  · skip
    refine dk_iload_n (pc' := 5) hE dJ1_canEncode_9a6ad_4 rfl rfl rfl ?_
    refine dk_sipush (pc' := 8) hE dJ1_canEncode_9a6ad_5 (by decide) rfl ?_
    refine dk_icmp_gt (tgt := 15) (pc' := 11) hE dJ1_canEncode_9a6ad_8 (by decide) rfl (fun hc2 => ?_) (fun hc2 => ?_)
    · skip
      refine dk_iconst (pc' := 16) hE dJ1_canEncode_9a6ad_15 (by decide) rfl ?_
      exact dk_zret (st := []) hE hR dJ1_canEncode_9a6ad_16 (by omega) ⟨_, rfl, (fun k_ j_ h_ => rfl), by omega⟩
    · skip
      refine dk_iconst (pc' := 12) hE dJ1_canEncode_9a6ad_11 (by decide) rfl ?_
      refine dk_goto (tgt := 16) hE dJ1_canEncode_9a6ad_12 (by decide) ?_
      exact dk_zret (st := []) hE hR dJ1_canEncode_9a6ad_16 (by omega) ⟨_, rfl, (fun k_ j_ h_ => rfl), by omega⟩
set_option maxHeartbeats 4000000 in
set_option maxRecDepth 20000 in
theorem ct_J1_indexOfChar_4cfef (l : Launch) (G : dkG) (hGd : dk_Gd G) (w c f t : Int) : dk_Ct l G dk_Ty yJ1_indexOfChar_4cfef cJ1_indexOfChar_4cfef 6 (some .int) 1 190 190 (fun av σ => av = [(4, w), (0, c), (0, f), (0, t)] ∧ (-23 ≤ w ∧ w ≤ -20) ∧ (0 ≤ f) ∧ (t ≤ dk_sl w)) (fun _ σ r_ σ' => ∃ z : Int, r_ = some (0, z) ∧ (∀ k_ j_ : Int, ¬ (False) → σ' k_ j_ = σ k_ j_) ∧ (-1 ≤ z ∧ z < dk_sl w)) := by
  refine dk_enter hGd (by decide) (fun av σ hpre hok => ?_)
  obtain ⟨rfl, hw, hf, ht⟩ := hpre
  refine ⟨Nat.le_of_ble_eq_true rfl, fun E hE hR _ => ?_⟩
  have hi_c : dk_i32 c := dk_oki (hok _ (by simp))
  have hi_f : dk_i32 f := dk_oki (hok _ (by simp))
  have hi_t : dk_i32 t := dk_oki (hok _ (by simp))
  show dk_PJ E 0 [(4, w), (0, c), (0, f), (0, t), (9, 0), (9, 0)] [] 190 σ
  have hsl := dk_sl_in w
  refine dk_iload_n (pc' := 1) hE dJ1_indexOfChar_4cfef_0 rfl rfl rfl ?_
  refine dk_i2b (pc' := 2) hE dJ1_indexOfChar_4cfef_1 rfl (fun v1 hv1 ev1 => ?_)
  have hbv1 := dk_b_in ev1
  refine dk_istore (pc' := 4) (ls' := [(4, w), (0, c), (0, f), (0, t), (0, v1), (9, 0)]) hE dJ1_indexOfChar_4cfef_2 rfl (by decide) rfl ?_
  refine dk_iload_n (pc' := 5) hE dJ1_indexOfChar_4cfef_4 rfl rfl rfl ?_
  refine dk_istore (pc' := 7) (ls' := [(4, w), (0, c), (0, f), (0, t), (0, v1), (0, f)]) hE dJ1_indexOfChar_4cfef_5 rfl (by decide) rfl ?_
  have lp7 : ∀ (N_ : Nat) (i : Int) (σ7c : dkS), (2147483648 - i).toNat < N_ → ((∀ k_ j_ : Int, ¬ (False) → σ7c k_ j_ = σ k_ j_)) → (0 ≤ i) → dk_PJ E 7 [(4, w), (0, c), (0, f), (0, t), (0, v1), (0, i)] [] 190 σ7c := by
    intro N7
    induction N7 with
    | zero => intro i σ7c hm; exact absurd hm (Nat.not_lt_zero _)
    | succ N7 ih7 =>
      intro i σ7c hm7 hF7 hi
      refine dk_iload (pc' := 9) hE dJ1_indexOfChar_4cfef_7 rfl rfl ?_
      refine dk_iload_n (pc' := 10) hE dJ1_indexOfChar_4cfef_9 rfl rfl rfl ?_
      refine dk_icmp_ge (tgt := 31) (pc' := 13) hE dJ1_indexOfChar_4cfef_10 (by decide) rfl (fun hc2 => ?_) (fun hc2 => ?_)
      · skip
        refine dk_iconst (pc' := 32) hE dJ1_indexOfChar_4cfef_31 (by decide) rfl ?_
        exact dk_iret (st := []) hE hR dJ1_indexOfChar_4cfef_32 ⟨_, rfl, (fun k_ j_ h_ => by rw [hF7 k_ j_ not_false]), by omega⟩
      · skip
        refine dk_aload_n (pc' := 14) hE dJ1_indexOfChar_4cfef_13 rfl rfl rfl ?_
        refine dk_iload (pc' := 16) hE dJ1_indexOfChar_4cfef_14 rfl rfl ?_
        refine dk_sbl (pc' := 17) hE dJ1_indexOfChar_4cfef_16 (by omega) (by omega) rfl (fun v3 hbv3 => ?_)
        refine dk_iload (pc' := 19) hE dJ1_indexOfChar_4cfef_17 rfl rfl ?_
        refine dk_icmp_ne (tgt := 25) (pc' := 22) hE dJ1_indexOfChar_4cfef_19 (by decide) rfl (fun hc4 => ?_) (fun hc4 => ?_)
        · skip
          obtain ⟨v5, hv5⟩ : ∃ z : Int, z = i + 1 := ⟨_, rfl⟩
          refine dk_iinc (pc' := 28) (ls' := [(4, w), (0, c), (0, f), (0, t), (0, v1), (0, v5)]) hE dJ1_indexOfChar_4cfef_25 rfl hv5.symm (by omega) rfl (by decide) rfl ?_
          refine dk_goto (tgt := 7) hE dJ1_indexOfChar_4cfef_28 (by decide) ?_
          exact ih7 v5 σ7c (by omega) (fun k_ j_ h_ => by rw [hF7 k_ j_ not_false]) (by omega)
        · skip
          refine dk_iload (pc' := 24) hE dJ1_indexOfChar_4cfef_22 rfl rfl ?_
          exact dk_iret (st := []) hE hR dJ1_indexOfChar_4cfef_24 ⟨_, rfl, (fun k_ j_ h_ => by rw [hF7 k_ j_ not_false]), by omega⟩
  exact lp7 _ f σ (Nat.lt_succ_self _) (fun k_ j_ h_ => rfl) (by omega)
set_option maxHeartbeats 4000000 in
set_option maxRecDepth 20000 in
theorem ct_J1_indexOf_4cfef (l : Launch) (G : dkG) (hGd : dk_Gd G) (w c f t : Int) : dk_Ct l G dk_Ty yJ1_indexOf_4cfef cJ1_indexOf_4cfef 4 (some .int) 2 190 190 (fun av σ => av = [(4, w), (0, c), (0, f), (0, t)] ∧ (-23 ≤ w ∧ w ≤ -20)) (fun _ σ r_ σ' => ∃ z : Int, r_ = some (0, z) ∧ (∀ k_ j_ : Int, ¬ (False) → σ' k_ j_ = σ k_ j_) ∧ (-1 ≤ z ∧ z < dk_sl w)) := by
  refine dk_enter hGd (by decide) (fun av σ hpre hok => ?_)
  obtain ⟨rfl, hw⟩ := hpre
  refine ⟨Nat.le_of_ble_eq_true rfl, fun E hE hR _ => ?_⟩
  have hi_c : dk_i32 c := dk_oki (hok _ (by simp))
  have hi_f : dk_i32 f := dk_oki (hok _ (by simp))
  have hi_t : dk_i32 t := dk_oki (hok _ (by simp))
  show dk_PJ E 0 [(4, w), (0, c), (0, f), (0, t)] [] 190 σ
  have hsl := dk_sl_in w
  refine dk_iload_n (pc' := 1) hE dJ1_indexOf_4cfef_0 rfl rfl rfl ?_
  refine dk_cS (pc' := 4) (as := [(0, c)]) hE lk_J1_88 (ct_J1_canEncode_9a6ad l G hGd c) dJ1_indexOf_4cfef_1 rfl rfl (by decide) (Nat.le_of_ble_eq_true rfl) rfl rfl (fun r2 σ1 hr2 _ => ?_)
  obtain ⟨v3, rfl, hfσ1, hpr2⟩ := hr2
  have hsσ1 : σ = σ1 := (funext (fun k => funext (fun j => hfσ1 k j not_false))).symm
  subst hsσ1
  refine dk_if_ne (tgt := 9) (pc' := 7) hE dJ1_indexOf_4cfef_4 (by decide) rfl (fun hc4 => ?_) (fun hc4 => ?_)
  · skip
    refine dk_iload_n (pc' := 10) hE dJ1_indexOf_4cfef_9 rfl rfl rfl ?_
    refine dk_iconst (pc' := 11) hE dJ1_indexOf_4cfef_10 (by decide) rfl ?_
    refine dk_mmax (pc' := 14) hE wd_704 dJ1_indexOf_4cfef_11 (Nat.le_of_ble_eq_true rfl) (by decide) rfl (fun v5 hv5 => ?_)
    refine dk_istore_n (pc' := 15) (ls' := [(4, w), (0, c), (0, v5), (0, t)]) hE dJ1_indexOf_4cfef_14 rfl rfl (by decide) rfl ?_
    refine dk_iload_n (pc' := 16) hE dJ1_indexOf_4cfef_15 rfl rfl rfl ?_
    refine dk_aload_n (pc' := 17) hE dJ1_indexOf_4cfef_16 rfl rfl rfl ?_
    refine dk_sal (pc' := 18) hE dJ1_indexOf_4cfef_17 (by omega) rfl (fun v6 hv6 => ?_)
    refine dk_mmin (pc' := 21) hE wd_707 dJ1_indexOf_4cfef_18 (Nat.le_of_ble_eq_true rfl) (by decide) rfl (fun v7 hv7 => ?_)
    refine dk_istore_n (pc' := 22) (ls' := [(4, w), (0, c), (0, v5), (0, v7)]) hE dJ1_indexOf_4cfef_21 rfl rfl (by decide) rfl ?_
    refine dk_iload_n (pc' := 23) hE dJ1_indexOf_4cfef_22 rfl rfl rfl ?_
    refine dk_iload_n (pc' := 24) hE dJ1_indexOf_4cfef_23 rfl rfl rfl ?_
    refine dk_icmp_lt (tgt := 29) (pc' := 27) hE dJ1_indexOf_4cfef_24 (by decide) rfl (fun hc8 => ?_) (fun hc8 => ?_)
    · skip
      refine dk_aload_n (pc' := 30) hE dJ1_indexOf_4cfef_29 rfl rfl rfl ?_
      refine dk_iload_n (pc' := 31) hE dJ1_indexOf_4cfef_30 rfl rfl rfl ?_
      refine dk_iload_n (pc' := 32) hE dJ1_indexOf_4cfef_31 rfl rfl rfl ?_
      refine dk_iload_n (pc' := 33) hE dJ1_indexOf_4cfef_32 rfl rfl rfl ?_
      refine dk_cS (pc' := 36) (as := [(4, w), (0, c), (0, v5), (0, v7)]) hE lk_J1_95 (ct_J1_indexOfChar_4cfef l G hGd w c v5 v7) dJ1_indexOf_4cfef_33 rfl rfl (by decide) (Nat.le_of_ble_eq_true rfl) ⟨rfl, (by omega), (by omega), (by omega)⟩ rfl (fun r10 σ9 hr10 _ => ?_)
      obtain ⟨v11, rfl, hfσ9, hpr10⟩ := hr10
      have hsσ9 : σ = σ9 := (funext (fun k => funext (fun j => hfσ9 k j not_false))).symm
      subst hsσ9
      exact dk_iret (st := []) hE hR dJ1_indexOf_4cfef_36 ⟨_, rfl, (fun k_ j_ h_ => rfl), by omega⟩
    · skip
      refine dk_iconst (pc' := 28) hE dJ1_indexOf_4cfef_27 (by decide) rfl ?_
      exact dk_iret (st := []) hE hR dJ1_indexOf_4cfef_28 ⟨_, rfl, (fun k_ j_ h_ => rfl), by omega⟩
  · skip
    refine dk_iconst (pc' := 8) hE dJ1_indexOf_4cfef_7 (by decide) rfl ?_
    exact dk_iret (st := []) hE hR dJ1_indexOf_4cfef_8 ⟨_, rfl, (fun k_ j_ h_ => rfl), by omega⟩
set_option maxHeartbeats 4000000 in
set_option maxRecDepth 20000 in
theorem ct_J0_indexOf_7cf53 (l : Launch) (G : dkG) (hGd : dk_Gd G) (q c f : Int) : dk_Ct l G dk_Ty yJ0_indexOf_7cf53 cJ0_indexOf_7cf53 3 (some .int) 3 190 190 (fun av σ => av = [(4, q), (0, c), (0, f)] ∧ (-13 ≤ q ∧ q ≤ -10)) (fun _ σ r_ σ' => ∃ z : Int, r_ = some (0, z) ∧ (∀ k_ j_ : Int, ¬ (False) → σ' k_ j_ = σ k_ j_) ∧ (-1 ≤ z ∧ z < dk_sl (q - 10))) := by
  refine dk_enter hGd (by decide) (fun av σ hpre hok => ?_)
  obtain ⟨rfl, hq⟩ := hpre
  refine ⟨Nat.le_of_ble_eq_true rfl, fun E hE hR _ => ?_⟩
  have hi_c : dk_i32 c := dk_oki (hok _ (by simp))
  have hi_f : dk_i32 f := dk_oki (hok _ (by simp))
  show dk_PJ E 0 [(4, q), (0, c), (0, f)] [] 190 σ
  refine dk_aload_n (pc' := 1) hE dJ0_indexOf_7cf53_0 rfl rfl rfl ?_
  refine dk_cW (pc' := 4) (as := []) hE lk_J0_492 (ct_J0_isLatin1_aae02 l G hGd q) dJ0_indexOf_7cf53_1 rfl (by omega) rfl (by decide) (Nat.le_of_ble_eq_true rfl) ⟨rfl, (by omega)⟩ rfl (fun r2 σ1 hr2 _ => ?_)
  obtain ⟨v3, rfl, hfσ1, hpr2⟩ := hr2
  have hsσ1 : σ = σ1 := (funext (fun k => funext (fun j => hfσ1 k j not_false))).symm
  subst hsσ1
  refine dk_if_eq (tgt := 23) (pc' := 7) hE dJ0_indexOf_7cf53_4 (by decide) rfl (fun hc4 => ?_) (fun hc4 => ?_)
  · skip
    exfalso
    omega
  · skip
    refine dk_aload_n (pc' := 8) hE dJ0_indexOf_7cf53_7 rfl rfl rfl ?_
    refine dk_sval (pc' := 11) hE wd_1978 dJ0_indexOf_7cf53_8 (by omega) rfl ?_
    refine dk_iload_n (pc' := 12) hE dJ0_indexOf_7cf53_11 rfl rfl rfl ?_
    refine dk_iload_n (pc' := 13) hE dJ0_indexOf_7cf53_12 rfl rfl rfl ?_
    refine dk_aload_n (pc' := 14) hE dJ0_indexOf_7cf53_13 rfl rfl rfl ?_
    refine dk_cW (pc' := 17) (as := []) hE lk_J0_505 (ct_J0_length_8abf5 l G hGd q) dJ0_indexOf_7cf53_14 rfl (by omega) rfl (by decide) (Nat.le_of_ble_eq_true rfl) ⟨rfl, (by omega)⟩ rfl (fun r6 σ5 hr6 _ => ?_)
    obtain ⟨v7, rfl, hfσ5, hpr6⟩ := hr6
    have hsσ5 : σ = σ5 := (funext (fun k => funext (fun j => hfσ5 k j not_false))).symm
    subst hsσ5
    refine dk_cS (pc' := 20) (as := [(4, (q - 10)), (0, c), (0, f), (0, v7)]) hE lk_J0_637 (ct_J1_indexOf_4cfef l G hGd (q - 10) c f v7) dJ0_indexOf_7cf53_17 rfl rfl (by decide) (Nat.le_of_ble_eq_true rfl) ⟨rfl, (by omega)⟩ rfl (fun r9 σ8 hr9 _ => ?_)
    obtain ⟨v10, rfl, hfσ8, hpr9⟩ := hr9
    have hsσ8 : σ = σ8 := (funext (fun k => funext (fun j => hfσ8 k j not_false))).symm
    subst hsσ8
    refine dk_goto (tgt := 36) hE dJ0_indexOf_7cf53_20 (by decide) ?_
    exact dk_iret (st := []) hE hR dJ0_indexOf_7cf53_36 ⟨_, rfl, (fun k_ j_ h_ => rfl), by omega⟩
set_option maxHeartbeats 4000000 in
set_option maxRecDepth 20000 in
theorem ct_J0_indexOf_0f7a4 (l : Launch) (G : dkG) (hGd : dk_Gd G) (q c : Int) : dk_Ct l G dk_Ty yJ0_indexOf_0f7a4 cJ0_indexOf_0f7a4 2 (some .int) 4 190 190 (fun av σ => av = [(4, q), (0, c)] ∧ (-13 ≤ q ∧ q ≤ -10)) (fun _ σ r_ σ' => ∃ z : Int, r_ = some (0, z) ∧ (∀ k_ j_ : Int, ¬ (False) → σ' k_ j_ = σ k_ j_) ∧ (-1 ≤ z ∧ z < dk_sl (q - 10))) := by
  refine dk_enter hGd (by decide) (fun av σ hpre hok => ?_)
  obtain ⟨rfl, hq⟩ := hpre
  refine ⟨Nat.le_of_ble_eq_true rfl, fun E hE hR _ => ?_⟩
  have hi_c : dk_i32 c := dk_oki (hok _ (by simp))
  show dk_PJ E 0 [(4, q), (0, c)] [] 190 σ
  refine dk_aload_n (pc' := 1) hE dJ0_indexOf_0f7a4_0 rfl rfl rfl ?_
  refine dk_iload_n (pc' := 2) hE dJ0_indexOf_0f7a4_1 rfl rfl rfl ?_
  refine dk_iconst (pc' := 3) hE dJ0_indexOf_0f7a4_2 (by decide) rfl ?_
  refine dk_cW (pc' := 6) (as := [(0, c), (0, 0)]) hE lk_J0_633 (ct_J0_indexOf_7cf53 l G hGd q c 0) dJ0_indexOf_0f7a4_3 rfl (by omega) rfl (by decide) (Nat.le_of_ble_eq_true rfl) ⟨rfl, (by omega)⟩ rfl (fun r2 σ1 hr2 _ => ?_)
  obtain ⟨v3, rfl, hfσ1, hpr2⟩ := hr2
  have hsσ1 : σ = σ1 := (funext (fun k => funext (fun j => hfσ1 k j not_false))).symm
  subst hsσ1
  exact dk_iret (st := []) hE hR dJ0_indexOf_0f7a4_6 ⟨_, rfl, (fun k_ j_ h_ => rfl), by omega⟩
set_option maxHeartbeats 4000000 in
set_option maxRecDepth 20000 in
theorem ct_X9_isLetter (l : Launch) (G : dkG) (hGd : dk_Gd G) (a : Int) : dk_Ct l G dk_Ty yX9_isLetter cX9_isLetter 1 (some .boolean) 1 190 190 (fun av σ => av = [(0, a)]) (fun _ σ r_ σ' => ∃ z : Int, r_ = some (0, z) ∧ (∀ k_ j_ : Int, ¬ (False) → σ' k_ j_ = σ k_ j_) ∧ (z = 1 ∧ 97 ≤ a ∧ a ≤ 122 ∨ z = 0 ∧ (a < 97 ∨ 122 < a))) := by
  refine dk_enter hGd (by decide) (fun av σ hpre hok => ?_)
  subst hpre
  refine ⟨Nat.le_of_ble_eq_true rfl, fun E hE hR _ => ?_⟩
  have hi_a : dk_i32 a := dk_oki (hok _ (by simp))
  show dk_PJ E 0 [(0, a)] [] 190 σ
  refine dk_iload_n (pc' := 1) hE dX9_isLetter_0 rfl rfl rfl ?_
  refine dk_bipush (pc' := 3) hE dX9_isLetter_1 (by decide) rfl ?_
  refine dk_icmp_lt (tgt := 16) (pc' := 6) hE dX9_isLetter_3 (by decide) rfl (fun hc1 => ?_) (fun hc1 => ?_)
  · skip
    refine dk_iconst (pc' := 17) hE dX9_isLetter_16 (by decide) rfl ?_
    exact dk_zret (st := []) hE hR dX9_isLetter_17 (by omega) ⟨_, rfl, (fun k_ j_ h_ => rfl), by omega⟩
  · skip
    refine dk_iload_n (pc' := 7) hE dX9_isLetter_6 rfl rfl rfl ?_
    refine dk_bipush (pc' := 9) hE dX9_isLetter_7 (by decide) rfl ?_
    refine dk_icmp_gt (tgt := 16) (pc' := 12) hE dX9_isLetter_9 (by decide) rfl (fun hc2 => ?_) (fun hc2 => ?_)
    · skip
      refine dk_iconst (pc' := 17) hE dX9_isLetter_16 (by decide) rfl ?_
      exact dk_zret (st := []) hE hR dX9_isLetter_17 (by omega) ⟨_, rfl, (fun k_ j_ h_ => rfl), by omega⟩
    · skip
      refine dk_iconst (pc' := 13) hE dX9_isLetter_12 (by decide) rfl ?_
      refine dk_goto (tgt := 17) hE dX9_isLetter_13 (by decide) ?_
      exact dk_zret (st := []) hE hR dX9_isLetter_17 (by omega) ⟨_, rfl, (fun k_ j_ h_ => rfl), by omega⟩
set_option maxHeartbeats 4000000 in
set_option maxRecDepth 20000 in
theorem ct_X9_isDigit (l : Launch) (G : dkG) (hGd : dk_Gd G) (a : Int) : dk_Ct l G dk_Ty yX9_isDigit cX9_isDigit 1 (some .boolean) 1 190 190 (fun av σ => av = [(0, a)]) (fun _ σ r_ σ' => ∃ z : Int, r_ = some (0, z) ∧ (∀ k_ j_ : Int, ¬ (False) → σ' k_ j_ = σ k_ j_) ∧ (z = 1 ∧ 48 ≤ a ∧ a ≤ 57 ∨ z = 0 ∧ (a < 48 ∨ 57 < a))) := by
  refine dk_enter hGd (by decide) (fun av σ hpre hok => ?_)
  subst hpre
  refine ⟨Nat.le_of_ble_eq_true rfl, fun E hE hR _ => ?_⟩
  have hi_a : dk_i32 a := dk_oki (hok _ (by simp))
  show dk_PJ E 0 [(0, a)] [] 190 σ
  refine dk_iload_n (pc' := 1) hE dX9_isDigit_0 rfl rfl rfl ?_
  refine dk_bipush (pc' := 3) hE dX9_isDigit_1 (by decide) rfl ?_
  refine dk_icmp_lt (tgt := 16) (pc' := 6) hE dX9_isDigit_3 (by decide) rfl (fun hc1 => ?_) (fun hc1 => ?_)
  · skip
    refine dk_iconst (pc' := 17) hE dX9_isDigit_16 (by decide) rfl ?_
    exact dk_zret (st := []) hE hR dX9_isDigit_17 (by omega) ⟨_, rfl, (fun k_ j_ h_ => rfl), by omega⟩
  · skip
    refine dk_iload_n (pc' := 7) hE dX9_isDigit_6 rfl rfl rfl ?_
    refine dk_bipush (pc' := 9) hE dX9_isDigit_7 (by decide) rfl ?_
    refine dk_icmp_gt (tgt := 16) (pc' := 12) hE dX9_isDigit_9 (by decide) rfl (fun hc2 => ?_) (fun hc2 => ?_)
    · skip
      refine dk_iconst (pc' := 17) hE dX9_isDigit_16 (by decide) rfl ?_
      exact dk_zret (st := []) hE hR dX9_isDigit_17 (by omega) ⟨_, rfl, (fun k_ j_ h_ => rfl), by omega⟩
    · skip
      refine dk_iconst (pc' := 13) hE dX9_isDigit_12 (by decide) rfl ?_
      refine dk_goto (tgt := 17) hE dX9_isDigit_13 (by decide) ?_
      exact dk_zret (st := []) hE hR dX9_isDigit_17 (by omega) ⟨_, rfl, (fun k_ j_ h_ => rfl), by omega⟩
set_option maxHeartbeats 4000000 in
set_option maxRecDepth 20000 in
theorem ct_X9_withLetter (l : Launch) (G : dkG) (hGd : dk_Gd G) (a b : Int) : dk_Ct l G dk_Ty yX9_withLetter cX9_withLetter 3 (some .long) 1 190 190 (fun av σ => av = [(3, a), (0, b)]) (fun _ σ r_ σ' => ∃ z : Int, r_ = some (3, z) ∧ (∀ k_ j_ : Int, ¬ (False) → σ' k_ j_ = σ k_ j_) ∧ (True)) := by
  refine dk_enter hGd (by decide) (fun av σ hpre hok => ?_)
  subst hpre
  refine ⟨Nat.le_of_ble_eq_true rfl, fun E hE hR _ => ?_⟩
  have hi_a : dk_i64 a := dk_okl (hok _ (by simp))
  have hi_b : dk_i32 b := dk_oki (hok _ (by simp))
  show dk_PJ E 0 [(3, a), (9, 0), (0, b)] [] 190 σ
  refine dk_lload_n (pc' := 1) hE dX9_withLetter_0 rfl rfl rfl ?_
  refine dk_iconst (pc' := 2) hE dX9_withLetter_1 (by decide) rfl ?_
  refine dk_lshl (pc' := 3) hE dX9_withLetter_2 rfl (fun v1 hv1 => ?_)
  refine dk_iload_n (pc' := 4) hE dX9_withLetter_3 rfl rfl rfl ?_
  refine dk_bipush (pc' := 6) hE dX9_withLetter_4 (by decide) rfl ?_
  refine dk_isubW (pc' := 7) hE dX9_withLetter_6 rfl (fun v2 hv2 _ => ?_)
  refine dk_iconst (pc' := 8) hE dX9_withLetter_7 (by decide) rfl ?_
  refine dk_iaddW (pc' := 9) hE dX9_withLetter_8 rfl (fun v3 hv3 _ => ?_)
  refine dk_i2l (pc' := 10) hE dX9_withLetter_9 rfl ?_
  refine dk_lor (pc' := 11) hE dX9_withLetter_10 rfl (fun v4 hv4 => ?_)
  exact dk_lret (st := []) hE hR dX9_withLetter_11 ⟨_, rfl, (fun k_ j_ h_ => rfl), trivial⟩
set_option maxHeartbeats 4000000 in
set_option maxRecDepth 20000 in
theorem ct_X9_letter (l : Launch) (G : dkG) (hGd : dk_Gd G) (a : Int) : dk_Ct l G dk_Ty yX9_letter cX9_letter 2 (some .int) 2 190 190 (fun av σ => av = [(4, 6), (0, a)]) (fun _ σ r_ σ' => ∃ z : Int, r_ = some (0, z) ∧ (∀ k_ j_ : Int, ¬ (False) → σ' k_ j_ = σ k_ j_) ∧ (-128 ≤ z ∧ z ≤ 127)) := by
  refine dk_enter hGd (by decide) (fun av σ hpre hok => ?_)
  subst hpre
  refine ⟨Nat.le_of_ble_eq_true rfl, fun E hE hR _ => ?_⟩
  have hi_a : dk_i32 a := dk_oki (hok _ (by simp))
  show dk_PJ E 0 [(4, 6), (0, a)] [] 190 σ
  refine dk_aload_n (pc' := 1) hE dX9_letter_0 rfl rfl rfl ?_
  refine gf_9_0 (pc' := 4) (w := 1) hE fl_X9_7 dX9_letter_1 is_6 rfl rfl ?_
  refine dk_aload_n (pc' := 5) hE dX9_letter_4 rfl rfl rfl ?_
  refine gf_9_4 (pc' := 8) hE fl_X9_46 dX9_letter_5 is_6 rfl (fun v1 hv1 htv1 hbv1 => ?_)
  refine dk_iload_n (pc' := 9) hE dX9_letter_8 rfl rfl rfl ?_
  refine dk_iaddW (pc' := 10) hE dX9_letter_9 rfl (fun v2 hv2 _ => ?_)
  refine dk_cV (pc' := 13) (as := [(0, v2)]) hE lk_X9_49 (ct_X7_at l G hGd v2) dX9_letter_10 rfl is_1 rfl (by decide) (Nat.le_of_ble_eq_true rfl) rfl rfl (fun r4 σ3 hr4 _ => ?_)
  obtain ⟨v5, rfl, hfσ3, hpr4⟩ := hr4
  have hsσ3 : σ = σ3 := (funext (fun k => funext (fun j => hfσ3 k j not_false))).symm
  subst hsσ3
  exact dk_iret (st := []) hE hR dX9_letter_13 ⟨_, rfl, (fun k_ j_ h_ => rfl), by omega⟩
set_option maxHeartbeats 4000000 in
set_option maxRecDepth 20000 in
theorem ct_X9_skipBlanks (l : Launch) (G : dkG) (hGd : dk_Gd G) : dk_Ct l G dk_Ty yX9_skipBlanks cX9_skipBlanks 1 (none) 2 190 190 (fun av σ => av = [(4, 6)]) (fun _ σ r_ σ' => r_ = none ∧ (∀ k_ j_ : Int, ¬ (k_ = 6) → σ' k_ j_ = σ k_ j_) ∧ (True)) := by
  refine dk_enter hGd (by decide) (fun av σ hpre hok => ?_)
  subst hpre
  refine ⟨Nat.le_of_ble_eq_true rfl, fun E hE hR _ => ?_⟩
  show dk_PJ E 0 [(4, 6)] [] 190 σ
  have lp0 : ∀ (N_ : Nat) (σ0c : dkS), (1401 - σ0c 6 2).toNat < N_ → ((∀ k_ j_ : Int, ¬ (k_ = 6) → σ0c k_ j_ = σ k_ j_)) → dk_PJ E 0 [(4, 6)] [] 190 σ0c := by
    intro N0
    induction N0 with
    | zero => intro  σ0c hm; exact absurd hm (Nat.not_lt_zero _)
    | succ N0 ih0 =>
      intro  σ0c hm0 hF0 
      refine dk_aload_n (pc' := 1) hE dX9_skipBlanks_0 rfl rfl rfl ?_
      refine gf_9_2 (pc' := 4) hE fl_X9_33 dX9_skipBlanks_1 is_6 rfl (fun v1 hv1 htv1 hbv1 => ?_)
      refine dk_aload_n (pc' := 5) hE dX9_skipBlanks_4 rfl rfl rfl ?_
      refine gf_9_0 (pc' := 8) (w := 1) hE fl_X9_7 dX9_skipBlanks_5 is_6 rfl rfl ?_
      refine gf_7_1 (pc' := 11) hE fl_X9_55 dX9_skipBlanks_8 is_1 rfl (fun v2 hv2 htv2 hbv2 => ?_)
      refine dk_icmp_ge (tgt := 59) (pc' := 14) hE dX9_skipBlanks_11 (by decide) rfl (fun hc3 => ?_) (fun hc3 => ?_)
      · skip
        exact dk_vret (st := []) hE hR dX9_skipBlanks_59 ⟨rfl, (fun k_ j_ h_ => by rw [hF0 k_ j_ (fun w_ => h_ (w_))]), trivial⟩
      · skip
        refine dk_aload_n (pc' := 15) hE dX9_skipBlanks_14 rfl rfl rfl ?_
        refine gf_9_0 (pc' := 18) (w := 1) hE fl_X9_7 dX9_skipBlanks_15 is_6 rfl rfl ?_
        refine dk_aload_n (pc' := 19) hE dX9_skipBlanks_18 rfl rfl rfl ?_
        refine gf_9_2 (pc' := 22) hE fl_X9_33 dX9_skipBlanks_19 is_6 rfl (fun v4 hv4 htv4 hbv4 => ?_)
        have hq4 : v1 = v4 := (show v4 = v1 by rw [hv4, hv1]).symm
        subst hq4
        clear htv4 hbv4
        refine dk_cV (pc' := 25) (as := [(0, v1)]) hE lk_X9_49 (ct_X7_at l G hGd v1) dX9_skipBlanks_22 rfl is_1 rfl (by decide) (Nat.le_of_ble_eq_true rfl) rfl rfl (fun r6 σ5 hr6 _ => ?_)
        obtain ⟨v7, rfl, hfσ5, hpr6⟩ := hr6
        have hsσ5 : σ0c = σ5 := (funext (fun k => funext (fun j => hfσ5 k j not_false))).symm
        subst hsσ5
        refine dk_bipush (pc' := 27) hE dX9_skipBlanks_25 (by decide) rfl ?_
        refine dk_icmp_eq (tgt := 46) (pc' := 30) hE dX9_skipBlanks_27 (by decide) rfl (fun hc8 => ?_) (fun hc8 => ?_)
        · skip
          refine dk_aload_n (pc' := 47) hE dX9_skipBlanks_46 rfl rfl rfl ?_
          refine dk_dup (pc' := 48) hE dX9_skipBlanks_47 (show (4 : Nat) ≠ 3 by decide) rfl ?_
          refine gf_9_2 (pc' := 51) hE fl_X9_33 dX9_skipBlanks_48 is_6 rfl (fun v9 hv9 htv9 hbv9 => ?_)
          have hq9 : v1 = v9 := (show v9 = v1 by rw [hv9, hv4]).symm
          subst hq9
          clear htv9 hbv9
          refine dk_iconst (pc' := 52) hE dX9_skipBlanks_51 (by decide) rfl ?_
          obtain ⟨v10, hv10⟩ : ∃ z : Int, z = v1 + 1 := ⟨_, rfl⟩
          refine dk_iadd (pc' := 53) hE dX9_skipBlanks_52 hv10.symm (by omega) rfl ?_
          refine pf_9_2 (pc' := 56) hE fl_X9_33 dX9_skipBlanks_53 is_6 (by omega) rfl (fun σ11 eσ11 => ?_)
          refine dk_goto (tgt := 0) hE dX9_skipBlanks_56 (by decide) ?_
          have hz11_6_2 : σ11 6 2 = v10 := by rw [eσ11, dk_up_s]
          exact ih0 σ11 (by omega) (fun k_ j_ h_ => by rw [eσ11, dk_up_n (show ¬ (k_ = 6 ∧ j_ = 2) from fun q_ => h_ (q_.1)), hF0 k_ j_ (fun w_ => h_ (w_))])
        · skip
          refine dk_aload_n (pc' := 31) hE dX9_skipBlanks_30 rfl rfl rfl ?_
          refine gf_9_0 (pc' := 34) (w := 1) hE fl_X9_7 dX9_skipBlanks_31 is_6 rfl rfl ?_
          refine dk_aload_n (pc' := 35) hE dX9_skipBlanks_34 rfl rfl rfl ?_
          refine gf_9_2 (pc' := 38) hE fl_X9_33 dX9_skipBlanks_35 is_6 rfl (fun v13 hv13 htv13 hbv13 => ?_)
          have hq13 : v1 = v13 := (show v13 = v1 by rw [hv13, hv4]).symm
          subst hq13
          clear htv13 hbv13
          refine dk_cV (pc' := 41) (as := [(0, v1)]) hE lk_X9_49 (ct_X7_at l G hGd v1) dX9_skipBlanks_38 rfl is_1 rfl (by decide) (Nat.le_of_ble_eq_true rfl) rfl rfl (fun r15 σ14 hr15 _ => ?_)
          obtain ⟨v16, rfl, hfσ14, hpr15⟩ := hr15
          have hsσ14 : σ0c = σ14 := (funext (fun k => funext (fun j => hfσ14 k j not_false))).symm
          subst hsσ14
          refine dk_bipush (pc' := 43) hE dX9_skipBlanks_41 (by decide) rfl ?_
          refine dk_icmp_ne (tgt := 59) (pc' := 46) hE dX9_skipBlanks_43 (by decide) rfl (fun hc17 => ?_) (fun hc17 => ?_)
          · skip
            exact dk_vret (st := []) hE hR dX9_skipBlanks_59 ⟨rfl, (fun k_ j_ h_ => by rw [hF0 k_ j_ (fun w_ => h_ (w_))]), trivial⟩
          · skip
            refine dk_aload_n (pc' := 47) hE dX9_skipBlanks_46 rfl rfl rfl ?_
            refine dk_dup (pc' := 48) hE dX9_skipBlanks_47 (show (4 : Nat) ≠ 3 by decide) rfl ?_
            refine gf_9_2 (pc' := 51) hE fl_X9_33 dX9_skipBlanks_48 is_6 rfl (fun v18 hv18 htv18 hbv18 => ?_)
            have hq18 : v1 = v18 := (show v18 = v1 by rw [hv18, hv13]).symm
            subst hq18
            clear htv18 hbv18
            refine dk_iconst (pc' := 52) hE dX9_skipBlanks_51 (by decide) rfl ?_
            obtain ⟨v19, hv19⟩ : ∃ z : Int, z = v1 + 1 := ⟨_, rfl⟩
            refine dk_iadd (pc' := 53) hE dX9_skipBlanks_52 hv19.symm (by omega) rfl ?_
            refine pf_9_2 (pc' := 56) hE fl_X9_33 dX9_skipBlanks_53 is_6 (by omega) rfl (fun σ20 eσ20 => ?_)
            refine dk_goto (tgt := 0) hE dX9_skipBlanks_56 (by decide) ?_
            have hz20_6_2 : σ20 6 2 = v19 := by rw [eσ20, dk_up_s]
            exact ih0 σ20 (by omega) (fun k_ j_ h_ => by rw [eσ20, dk_up_n (show ¬ (k_ = 6 ∧ j_ = 2) from fun q_ => h_ (q_.1)), hF0 k_ j_ (fun w_ => h_ (w_))])
  exact lp0 _ σ (Nat.lt_succ_self _) (fun k_ j_ h_ => rfl)
set_option maxHeartbeats 4000000 in
set_option maxRecDepth 20000 in
theorem ct_X9_takeWord (l : Launch) (G : dkG) (hGd : dk_Gd G) : dk_Ct l G dk_Ty yX9_takeWord cX9_takeWord 2 (none) 2 190 190 (fun av σ => av = [(4, 6)]) (fun _ σ r_ σ' => r_ = none ∧ (∀ k_ j_ : Int, ¬ (k_ = 6) → σ' k_ j_ = σ k_ j_) ∧ (True)) := by
  refine dk_enter hGd (by decide) (fun av σ hpre hok => ?_)
  subst hpre
  refine ⟨Nat.le_of_ble_eq_true rfl, fun E hE hR _ => ?_⟩
  show dk_PJ E 0 [(4, 6), (9, 0)] [] 190 σ
  refine dk_aload_n (pc' := 1) hE dX9_takeWord_0 rfl rfl rfl ?_
  refine dk_lconst (pc' := 2) hE dX9_takeWord_1 (w := 0) rfl rfl ?_
  refine pf_9_7 (pc' := 5) hE fl_X9_75 dX9_takeWord_2 is_6 trivial rfl (fun σ1 eσ1 => ?_)
  refine dk_aload_n (pc' := 6) hE dX9_takeWord_5 rfl rfl rfl ?_
  refine dk_iconst (pc' := 7) hE dX9_takeWord_6 (by decide) rfl ?_
  refine pf_9_5 (pc' := 10) hE fl_X9_79 dX9_takeWord_7 is_6 (by omega) rfl (fun σ2 eσ2 => ?_)
  have lp10 : ∀ (N_ : Nat) (σ10c : dkS), (9 - σ10c 6 5).toNat < N_ → ((∀ k_ j_ : Int, ¬ (k_ = 6) → σ10c k_ j_ = σ2 k_ j_)) → dk_PJ E 10 [(4, 6), (9, 0)] [] 190 σ10c := by
    intro N10
    induction N10 with
    | zero => intro  σ10c hm; exact absurd hm (Nat.not_lt_zero _)
    | succ N10 ih10 =>
      intro  σ10c hm10 hF10 
      refine dk_aload_n (pc' := 11) hE dX9_takeWord_10 rfl rfl rfl ?_
      refine gf_9_5 (pc' := 14) hE fl_X9_79 dX9_takeWord_11 is_6 rfl (fun v3 hv3 htv3 hbv3 => ?_)
      refine dk_bipush (pc' := 16) hE dX9_takeWord_14 (by decide) rfl ?_
      refine dk_icmp_ge (tgt := 81) (pc' := 19) hE dX9_takeWord_16 (by decide) rfl (fun hc4 => ?_) (fun hc4 => ?_)
      · skip
        refine dk_aload_n (pc' := 82) hE dX9_takeWord_81 rfl rfl rfl ?_
        refine dk_iconst (pc' := 83) hE dX9_takeWord_82 (by decide) rfl ?_
        refine pf_9_3 (pc' := 86) hE fl_X9_37 dX9_takeWord_83 is_6 (by omega) rfl (fun σ5 eσ5 => ?_)
        refine dk_iconst (pc' := 87) hE dX9_takeWord_86 (by decide) rfl ?_
        refine dk_istore_n (pc' := 88) (ls' := [(4, 6), (0, 0)]) hE dX9_takeWord_87 rfl rfl (by decide) rfl ?_
        have lp88 : ∀ (N_ : Nat) (i : Int) (σ88c : dkS), (2147483648 - i).toNat < N_ → ((∀ k_ j_ : Int, ¬ (k_ = 6) → σ88c k_ j_ = σ5 k_ j_)) → (0 ≤ i ∧ i ≤ 21) → dk_PJ E 88 [(4, 6), (0, i)] [] 190 σ88c := by
          intro N88
          induction N88 with
          | zero => intro i σ88c hm; exact absurd hm (Nat.not_lt_zero _)
          | succ N88 ih88 =>
            intro i σ88c hm88 hF88 hi
            refine dk_iload_n (pc' := 89) hE dX9_takeWord_88 rfl rfl rfl ?_
            refine dk_bipush (pc' := 91) hE dX9_takeWord_89 (by decide) rfl ?_
            refine dk_icmp_ge (tgt := 121) (pc' := 94) hE dX9_takeWord_91 (by decide) rfl (fun hc6 => ?_) (fun hc6 => ?_)
            · skip
              exact dk_vret (st := []) hE hR dX9_takeWord_121 ⟨rfl, (fun k_ j_ h_ => by rw [hF88 k_ j_ (fun w_ => h_ (w_)), eσ5, dk_up_n (show ¬ (k_ = 6 ∧ j_ = 3) from fun q_ => h_ (q_.1)), hF10 k_ j_ (fun w_ => h_ (w_)), eσ2, dk_up_n (show ¬ (k_ = 6 ∧ j_ = 5) from fun q_ => h_ (q_.1)), eσ1, dk_up_n (show ¬ (k_ = 6 ∧ j_ = 7) from fun q_ => h_ (q_.1))]), trivial⟩
            · skip
              refine dk_aload_n (pc' := 95) hE dX9_takeWord_94 rfl rfl rfl ?_
              refine gf_9_1 (pc' := 98) (w := 7) hE fl_X9_13 dX9_takeWord_95 is_6 rfl rfl ?_
              refine dk_iload_n (pc' := 99) hE dX9_takeWord_98 rfl rfl rfl ?_
              refine ga_23 (pc' := 100) hE dX9_takeWord_99 is_7 (by omega) rfl (fun v7 hv7 htv7 hbv7 => ?_)
              refine dk_aload_n (pc' := 101) hE dX9_takeWord_100 rfl rfl rfl ?_
              refine gf_9_7 (pc' := 104) hE fl_X9_75 dX9_takeWord_101 is_6 rfl (fun v8 hv8 htv8 hbv8 => ?_)
              refine dk_lcmp (pc' := 105) hE dX9_takeWord_104 rfl (fun v9 hv9 => ?_)
              refine dk_if_ne (tgt := 115) (pc' := 108) hE dX9_takeWord_105 (by decide) rfl (fun hc10 => ?_) (fun hc10 => ?_)
              · skip
                obtain ⟨v11, hv11⟩ : ∃ z : Int, z = i + 1 := ⟨_, rfl⟩
                refine dk_iinc (pc' := 118) (ls' := [(4, 6), (0, v11)]) hE dX9_takeWord_115 rfl hv11.symm (by omega) rfl (by decide) rfl ?_
                refine dk_goto (tgt := 88) hE dX9_takeWord_118 (by decide) ?_
                exact ih88 v11 σ88c (by omega) (fun k_ j_ h_ => by rw [hF88 k_ j_ (fun w_ => h_ (w_))]) (by omega)
              · skip
                refine dk_aload_n (pc' := 109) hE dX9_takeWord_108 rfl rfl rfl ?_
                refine dk_iconst (pc' := 110) hE dX9_takeWord_109 (by decide) rfl ?_
                refine dk_iload_n (pc' := 111) hE dX9_takeWord_110 rfl rfl rfl ?_
                obtain ⟨v12, hv12⟩ : ∃ z : Int, z = 4 + i := ⟨_, rfl⟩
                refine dk_iadd (pc' := 112) hE dX9_takeWord_111 hv12.symm (by omega) rfl ?_
                refine pf_9_3 (pc' := 115) hE fl_X9_37 dX9_takeWord_112 is_6 (by omega) rfl (fun σ13 eσ13 => ?_)
                obtain ⟨v14, hv14⟩ : ∃ z : Int, z = i + 1 := ⟨_, rfl⟩
                refine dk_iinc (pc' := 118) (ls' := [(4, 6), (0, v14)]) hE dX9_takeWord_115 rfl hv14.symm (by omega) rfl (by decide) rfl ?_
                refine dk_goto (tgt := 88) hE dX9_takeWord_118 (by decide) ?_
                exact ih88 v14 σ13 (by omega) (fun k_ j_ h_ => by rw [eσ13, dk_up_n (show ¬ (k_ = 6 ∧ j_ = 3) from fun q_ => h_ (q_.1)), hF88 k_ j_ (fun w_ => h_ (w_))]) (by omega)
        exact lp88 _ 0 σ5 (Nat.lt_succ_self _) (fun k_ j_ h_ => rfl) (by omega)
      · skip
        refine dk_aload_n (pc' := 20) hE dX9_takeWord_19 rfl rfl rfl ?_
        refine gf_9_0 (pc' := 23) (w := 1) hE fl_X9_7 dX9_takeWord_20 is_6 rfl rfl ?_
        refine dk_aload_n (pc' := 24) hE dX9_takeWord_23 rfl rfl rfl ?_
        refine gf_9_2 (pc' := 27) hE fl_X9_33 dX9_takeWord_24 is_6 rfl (fun v15 hv15 htv15 hbv15 => ?_)
        refine dk_cV (pc' := 30) (as := [(0, v15)]) hE lk_X9_49 (ct_X7_at l G hGd v15) dX9_takeWord_27 rfl is_1 rfl (by decide) (Nat.le_of_ble_eq_true rfl) rfl rfl (fun r17 σ16 hr17 _ => ?_)
        obtain ⟨v18, rfl, hfσ16, hpr17⟩ := hr17
        have hsσ16 : σ10c = σ16 := (funext (fun k => funext (fun j => hfσ16 k j not_false))).symm
        subst hsσ16
        refine dk_cS (pc' := 33) (as := [(0, v18)]) hE lk_X9_57 (ct_X9_isLetter l G hGd v18) dX9_takeWord_30 rfl rfl (by decide) (Nat.le_of_ble_eq_true rfl) rfl rfl (fun r20 σ19 hr20 _ => ?_)
        obtain ⟨v21, rfl, hfσ19, hpr20⟩ := hr20
        have hsσ19 : σ10c = σ19 := (funext (fun k => funext (fun j => hfσ19 k j not_false))).symm
        subst hsσ19
        rcases hpr20 with ⟨rfl, hpr20⟩ | ⟨rfl, hpr20⟩
        · skip
          refine dk_if_eq (tgt := 81) (pc' := 36) hE dX9_takeWord_33 (by decide) rfl (fun hc22 => absurd hc22 (by decide)) (fun hc22 => ?_)
          refine dk_aload_n (pc' := 37) hE dX9_takeWord_36 rfl rfl rfl ?_
          refine dk_aload_n (pc' := 38) hE dX9_takeWord_37 rfl rfl rfl ?_
          refine gf_9_7 (pc' := 41) hE fl_X9_75 dX9_takeWord_38 is_6 rfl (fun v23 hv23 htv23 hbv23 => ?_)
          refine dk_aload_n (pc' := 42) hE dX9_takeWord_41 rfl rfl rfl ?_
          refine gf_9_0 (pc' := 45) (w := 1) hE fl_X9_7 dX9_takeWord_42 is_6 rfl rfl ?_
          refine dk_aload_n (pc' := 46) hE dX9_takeWord_45 rfl rfl rfl ?_
          refine gf_9_2 (pc' := 49) hE fl_X9_33 dX9_takeWord_46 is_6 rfl (fun v24 hv24 htv24 hbv24 => ?_)
          have hq24 : v15 = v24 := (show v24 = v15 by rw [hv24, hv15]).symm
          subst hq24
          clear htv24 hbv24
          refine dk_cV (pc' := 52) (as := [(0, v15)]) hE lk_X9_49 (ct_X7_at l G hGd v15) dX9_takeWord_49 rfl is_1 rfl (by decide) (Nat.le_of_ble_eq_true rfl) rfl rfl (fun r26 σ25 hr26 _ => ?_)
          obtain ⟨v27, rfl, hfσ25, hpr26⟩ := hr26
          have hsσ25 : σ10c = σ25 := (funext (fun k => funext (fun j => hfσ25 k j not_false))).symm
          subst hsσ25
          refine dk_cS (pc' := 55) (as := [(3, v23), (0, v27)]) hE lk_X9_29 (ct_X9_withLetter l G hGd v23 v27) dX9_takeWord_52 rfl rfl (by decide) (Nat.le_of_ble_eq_true rfl) rfl rfl (fun r29 σ28 hr29 _ => ?_)
          obtain ⟨v30, rfl, hfσ28, hpr29⟩ := hr29
          have hsσ28 : σ10c = σ28 := (funext (fun k => funext (fun j => hfσ28 k j not_false))).symm
          subst hsσ28
          refine pf_9_7 (pc' := 58) hE fl_X9_75 dX9_takeWord_55 is_6 trivial rfl (fun σ31 eσ31 => ?_)
          refine dk_aload_n (pc' := 59) hE dX9_takeWord_58 rfl rfl rfl ?_
          refine dk_dup (pc' := 60) hE dX9_takeWord_59 (show (4 : Nat) ≠ 3 by decide) rfl ?_
          refine gf_9_5 (pc' := 63) hE fl_X9_79 dX9_takeWord_60 is_6 rfl (fun v32 hv32 htv32 hbv32 => ?_)
          have hq32 : v3 = v32 := (show v32 = v3 by rw [hv32, eσ31, dk_up_n (show ¬ (6 = 6 ∧ 5 = 7) by omega), hv3]).symm
          subst hq32
          clear htv32 hbv32
          refine dk_iconst (pc' := 64) hE dX9_takeWord_63 (by decide) rfl ?_
          obtain ⟨v33, hv33⟩ : ∃ z : Int, z = v3 + 1 := ⟨_, rfl⟩
          refine dk_iadd (pc' := 65) hE dX9_takeWord_64 hv33.symm (by omega) rfl ?_
          refine pf_9_5 (pc' := 68) hE fl_X9_79 dX9_takeWord_65 is_6 (by omega) rfl (fun σ34 eσ34 => ?_)
          refine dk_aload_n (pc' := 69) hE dX9_takeWord_68 rfl rfl rfl ?_
          refine dk_dup (pc' := 70) hE dX9_takeWord_69 (show (4 : Nat) ≠ 3 by decide) rfl ?_
          refine gf_9_2 (pc' := 73) hE fl_X9_33 dX9_takeWord_70 is_6 rfl (fun v35 hv35 htv35 hbv35 => ?_)
          have hq35 : v15 = v35 := (show v35 = v15 by rw [hv35, eσ34, dk_up_n (show ¬ (6 = 6 ∧ 2 = 5) by omega), eσ31, dk_up_n (show ¬ (6 = 6 ∧ 2 = 7) by omega), hv24]).symm
          subst hq35
          clear htv35 hbv35
          refine dk_iconst (pc' := 74) hE dX9_takeWord_73 (by decide) rfl ?_
          obtain ⟨v36, hv36⟩ : ∃ z : Int, z = v15 + 1 := ⟨_, rfl⟩
          refine dk_iadd (pc' := 75) hE dX9_takeWord_74 hv36.symm (by omega) rfl ?_
          refine pf_9_2 (pc' := 78) hE fl_X9_33 dX9_takeWord_75 is_6 (by omega) rfl (fun σ37 eσ37 => ?_)
          refine dk_goto (tgt := 10) hE dX9_takeWord_78 (by decide) ?_
          have hz37_6_5 : σ37 6 5 = v33 := by rw [eσ37, dk_up_n (show ¬ (6 = 6 ∧ 5 = 2) by omega), eσ34, dk_up_s]
          exact ih10 σ37 (by omega) (fun k_ j_ h_ => by rw [eσ37, dk_up_n (show ¬ (k_ = 6 ∧ j_ = 2) from fun q_ => h_ (q_.1)), eσ34, dk_up_n (show ¬ (k_ = 6 ∧ j_ = 5) from fun q_ => h_ (q_.1)), eσ31, dk_up_n (show ¬ (k_ = 6 ∧ j_ = 7) from fun q_ => h_ (q_.1)), hF10 k_ j_ (fun w_ => h_ (w_))])
        · skip
          refine dk_if_eq (tgt := 81) (pc' := 36) hE dX9_takeWord_33 (by decide) rfl (fun hc39 => ?_) (fun hc39 => absurd hc39 (by decide))
          refine dk_aload_n (pc' := 82) hE dX9_takeWord_81 rfl rfl rfl ?_
          refine dk_iconst (pc' := 83) hE dX9_takeWord_82 (by decide) rfl ?_
          refine pf_9_3 (pc' := 86) hE fl_X9_37 dX9_takeWord_83 is_6 (by omega) rfl (fun σ40 eσ40 => ?_)
          refine dk_iconst (pc' := 87) hE dX9_takeWord_86 (by decide) rfl ?_
          refine dk_istore_n (pc' := 88) (ls' := [(4, 6), (0, 0)]) hE dX9_takeWord_87 rfl rfl (by decide) rfl ?_
          have lp88 : ∀ (N_ : Nat) (i : Int) (σ88c : dkS), (2147483648 - i).toNat < N_ → ((∀ k_ j_ : Int, ¬ (k_ = 6) → σ88c k_ j_ = σ40 k_ j_)) → (0 ≤ i ∧ i ≤ 21) → dk_PJ E 88 [(4, 6), (0, i)] [] 190 σ88c := by
            intro N88
            induction N88 with
            | zero => intro i σ88c hm; exact absurd hm (Nat.not_lt_zero _)
            | succ N88 ih88 =>
              intro i σ88c hm88 hF88 hi
              refine dk_iload_n (pc' := 89) hE dX9_takeWord_88 rfl rfl rfl ?_
              refine dk_bipush (pc' := 91) hE dX9_takeWord_89 (by decide) rfl ?_
              refine dk_icmp_ge (tgt := 121) (pc' := 94) hE dX9_takeWord_91 (by decide) rfl (fun hc41 => ?_) (fun hc41 => ?_)
              · skip
                exact dk_vret (st := []) hE hR dX9_takeWord_121 ⟨rfl, (fun k_ j_ h_ => by rw [hF88 k_ j_ (fun w_ => h_ (w_)), eσ40, dk_up_n (show ¬ (k_ = 6 ∧ j_ = 3) from fun q_ => h_ (q_.1)), hF10 k_ j_ (fun w_ => h_ (w_)), eσ2, dk_up_n (show ¬ (k_ = 6 ∧ j_ = 5) from fun q_ => h_ (q_.1)), eσ1, dk_up_n (show ¬ (k_ = 6 ∧ j_ = 7) from fun q_ => h_ (q_.1))]), trivial⟩
              · skip
                refine dk_aload_n (pc' := 95) hE dX9_takeWord_94 rfl rfl rfl ?_
                refine gf_9_1 (pc' := 98) (w := 7) hE fl_X9_13 dX9_takeWord_95 is_6 rfl rfl ?_
                refine dk_iload_n (pc' := 99) hE dX9_takeWord_98 rfl rfl rfl ?_
                refine ga_23 (pc' := 100) hE dX9_takeWord_99 is_7 (by omega) rfl (fun v42 hv42 htv42 hbv42 => ?_)
                refine dk_aload_n (pc' := 101) hE dX9_takeWord_100 rfl rfl rfl ?_
                refine gf_9_7 (pc' := 104) hE fl_X9_75 dX9_takeWord_101 is_6 rfl (fun v43 hv43 htv43 hbv43 => ?_)
                refine dk_lcmp (pc' := 105) hE dX9_takeWord_104 rfl (fun v44 hv44 => ?_)
                refine dk_if_ne (tgt := 115) (pc' := 108) hE dX9_takeWord_105 (by decide) rfl (fun hc45 => ?_) (fun hc45 => ?_)
                · skip
                  obtain ⟨v46, hv46⟩ : ∃ z : Int, z = i + 1 := ⟨_, rfl⟩
                  refine dk_iinc (pc' := 118) (ls' := [(4, 6), (0, v46)]) hE dX9_takeWord_115 rfl hv46.symm (by omega) rfl (by decide) rfl ?_
                  refine dk_goto (tgt := 88) hE dX9_takeWord_118 (by decide) ?_
                  exact ih88 v46 σ88c (by omega) (fun k_ j_ h_ => by rw [hF88 k_ j_ (fun w_ => h_ (w_))]) (by omega)
                · skip
                  refine dk_aload_n (pc' := 109) hE dX9_takeWord_108 rfl rfl rfl ?_
                  refine dk_iconst (pc' := 110) hE dX9_takeWord_109 (by decide) rfl ?_
                  refine dk_iload_n (pc' := 111) hE dX9_takeWord_110 rfl rfl rfl ?_
                  obtain ⟨v47, hv47⟩ : ∃ z : Int, z = 4 + i := ⟨_, rfl⟩
                  refine dk_iadd (pc' := 112) hE dX9_takeWord_111 hv47.symm (by omega) rfl ?_
                  refine pf_9_3 (pc' := 115) hE fl_X9_37 dX9_takeWord_112 is_6 (by omega) rfl (fun σ48 eσ48 => ?_)
                  obtain ⟨v49, hv49⟩ : ∃ z : Int, z = i + 1 := ⟨_, rfl⟩
                  refine dk_iinc (pc' := 118) (ls' := [(4, 6), (0, v49)]) hE dX9_takeWord_115 rfl hv49.symm (by omega) rfl (by decide) rfl ?_
                  refine dk_goto (tgt := 88) hE dX9_takeWord_118 (by decide) ?_
                  exact ih88 v49 σ48 (by omega) (fun k_ j_ h_ => by rw [eσ48, dk_up_n (show ¬ (k_ = 6 ∧ j_ = 3) from fun q_ => h_ (q_.1)), hF88 k_ j_ (fun w_ => h_ (w_))]) (by omega)
          exact lp88 _ 0 σ40 (Nat.lt_succ_self _) (fun k_ j_ h_ => rfl) (by omega)
  have hz49_6_5 : σ2 6 5 = 0 := by rw [eσ2, dk_up_s]
  exact lp10 _ σ2 (Nat.lt_succ_self _) (fun k_ j_ h_ => rfl)
set_option maxHeartbeats 4000000 in
set_option maxRecDepth 20000 in
theorem ct_X9_takeNumber (l : Launch) (G : dkG) (hGd : dk_Gd G) : dk_Ct l G dk_Ty yX9_takeNumber cX9_takeNumber 2 (none) 2 190 190 (fun av σ => av = [(4, 6)]) (fun _ σ r_ σ' => r_ = none ∧ (∀ k_ j_ : Int, ¬ (k_ = 6) → σ' k_ j_ = σ k_ j_) ∧ (True)) := by
  refine dk_enter hGd (by decide) (fun av σ hpre hok => ?_)
  subst hpre
  refine ⟨Nat.le_of_ble_eq_true rfl, fun E hE hR _ => ?_⟩
  show dk_PJ E 0 [(4, 6), (9, 0)] [] 190 σ
  refine dk_aload_n (pc' := 1) hE dX9_takeNumber_0 rfl rfl rfl ?_
  refine dk_iconst (pc' := 2) hE dX9_takeNumber_1 (by decide) rfl ?_
  refine pf_9_3 (pc' := 5) hE fl_X9_37 dX9_takeNumber_2 is_6 (by omega) rfl (fun σ1 eσ1 => ?_)
  refine dk_aload_n (pc' := 6) hE dX9_takeNumber_5 rfl rfl rfl ?_
  refine dk_iconst (pc' := 7) hE dX9_takeNumber_6 (by decide) rfl ?_
  refine pf_9_6 (pc' := 10) hE fl_X9_80 dX9_takeNumber_7 is_6 (by omega) rfl (fun σ2 eσ2 => ?_)
  refine dk_iconst (pc' := 11) hE dX9_takeNumber_10 (by decide) rfl ?_
  refine dk_istore_n (pc' := 12) (ls' := [(4, 6), (0, 0)]) hE dX9_takeNumber_11 rfl rfl (by decide) rfl ?_
  have lp12 : ∀ (N_ : Nat) (i : Int) (σ12c : dkS), (2147483648 - i).toNat < N_ → ((∀ k_ j_ : Int, ¬ (k_ = 6) → σ12c k_ j_ = σ2 k_ j_)) → (0 ≤ i) → ((i = 0 ∧ σ12c 6 6 = 0) ∨ (i = 1 ∧ 0 ≤ σ12c 6 6 ∧ σ12c 6 6 ≤ 9) ∨ (i = 2 ∧ 0 ≤ σ12c 6 6 ∧ σ12c 6 6 ≤ 99) ∨ (i = 3 ∧ 0 ≤ σ12c 6 6 ∧ σ12c 6 6 ≤ 999) ∨ (4 ≤ i)) → dk_PJ E 12 [(4, 6), (0, i)] [] 190 σ12c := by
    intro N12
    induction N12 with
    | zero => intro i σ12c hm; exact absurd hm (Nat.not_lt_zero _)
    | succ N12 ih12 =>
      intro i σ12c hm12 hF12 hi hn
      refine dk_iload_n (pc' := 13) hE dX9_takeNumber_12 rfl rfl rfl ?_
      refine dk_iconst (pc' := 14) hE dX9_takeNumber_13 (by decide) rfl ?_
      refine dk_icmp_ge (tgt := 76) (pc' := 17) hE dX9_takeNumber_14 (by decide) rfl (fun hc3 => ?_) (fun hc3 => ?_)
      · skip
        exact dk_vret (st := []) hE hR dX9_takeNumber_76 ⟨rfl, (fun k_ j_ h_ => by rw [hF12 k_ j_ (fun w_ => h_ (w_)), eσ2, dk_up_n (show ¬ (k_ = 6 ∧ j_ = 6) from fun q_ => h_ (q_.1)), eσ1, dk_up_n (show ¬ (k_ = 6 ∧ j_ = 3) from fun q_ => h_ (q_.1))]), trivial⟩
      · skip
        refine dk_aload_n (pc' := 18) hE dX9_takeNumber_17 rfl rfl rfl ?_
        refine gf_9_0 (pc' := 21) (w := 1) hE fl_X9_7 dX9_takeNumber_18 is_6 rfl rfl ?_
        refine dk_aload_n (pc' := 22) hE dX9_takeNumber_21 rfl rfl rfl ?_
        refine gf_9_2 (pc' := 25) hE fl_X9_33 dX9_takeNumber_22 is_6 rfl (fun v4 hv4 htv4 hbv4 => ?_)
        refine dk_cV (pc' := 28) (as := [(0, v4)]) hE lk_X9_49 (ct_X7_at l G hGd v4) dX9_takeNumber_25 rfl is_1 rfl (by decide) (Nat.le_of_ble_eq_true rfl) rfl rfl (fun r6 σ5 hr6 _ => ?_)
        obtain ⟨v7, rfl, hfσ5, hpr6⟩ := hr6
        have hsσ5 : σ12c = σ5 := (funext (fun k => funext (fun j => hfσ5 k j not_false))).symm
        subst hsσ5
        refine dk_cS (pc' := 31) (as := [(0, v7)]) hE lk_X9_64 (ct_X9_isDigit l G hGd v7) dX9_takeNumber_28 rfl rfl (by decide) (Nat.le_of_ble_eq_true rfl) rfl rfl (fun r9 σ8 hr9 _ => ?_)
        obtain ⟨v10, rfl, hfσ8, hpr9⟩ := hr9
        have hsσ8 : σ12c = σ8 := (funext (fun k => funext (fun j => hfσ8 k j not_false))).symm
        subst hsσ8
        rcases hpr9 with ⟨rfl, hpr9⟩ | ⟨rfl, hpr9⟩
        · skip
          refine dk_if_eq (tgt := 76) (pc' := 34) hE dX9_takeNumber_31 (by decide) rfl (fun hc11 => absurd hc11 (by decide)) (fun hc11 => ?_)
          refine dk_aload_n (pc' := 35) hE dX9_takeNumber_34 rfl rfl rfl ?_
          refine dk_aload_n (pc' := 36) hE dX9_takeNumber_35 rfl rfl rfl ?_
          refine gf_9_6 (pc' := 39) hE fl_X9_80 dX9_takeNumber_36 is_6 rfl (fun v12 hv12 htv12 hbv12 => ?_)
          refine dk_bipush (pc' := 41) hE dX9_takeNumber_39 (by decide) rfl ?_
          obtain ⟨v13, hv13⟩ : ∃ z : Int, z = v12 * 10 := ⟨_, rfl⟩
          refine dk_imul (pc' := 42) hE dX9_takeNumber_41 hv13.symm (by omega) rfl ?_
          refine dk_aload_n (pc' := 43) hE dX9_takeNumber_42 rfl rfl rfl ?_
          refine gf_9_0 (pc' := 46) (w := 1) hE fl_X9_7 dX9_takeNumber_43 is_6 rfl rfl ?_
          refine dk_aload_n (pc' := 47) hE dX9_takeNumber_46 rfl rfl rfl ?_
          refine gf_9_2 (pc' := 50) hE fl_X9_33 dX9_takeNumber_47 is_6 rfl (fun v14 hv14 htv14 hbv14 => ?_)
          have hq14 : v4 = v14 := (show v14 = v4 by rw [hv14, hv4]).symm
          subst hq14
          clear htv14 hbv14
          refine dk_cV (pc' := 53) (as := [(0, v4)]) hE lk_X9_49 (ct_X7_at l G hGd v4) dX9_takeNumber_50 rfl is_1 rfl (by decide) (Nat.le_of_ble_eq_true rfl) rfl rfl (fun r16 σ15 hr16 _ => ?_)
          obtain ⟨v17, rfl, hfσ15, hpr16⟩ := hr16
          have hsσ15 : σ12c = σ15 := (funext (fun k => funext (fun j => hfσ15 k j not_false))).symm
          subst hsσ15
          obtain ⟨v18, hv18⟩ : ∃ z : Int, z = v13 + v17 := ⟨_, rfl⟩
          refine dk_iadd (pc' := 54) hE dX9_takeNumber_53 hv18.symm (by omega) rfl ?_
          refine dk_bipush (pc' := 56) hE dX9_takeNumber_54 (by decide) rfl ?_
          obtain ⟨v19, hv19⟩ : ∃ z : Int, z = v18 - 48 := ⟨_, rfl⟩
          refine dk_isub (pc' := 57) hE dX9_takeNumber_56 hv19.symm (by omega) rfl ?_
          refine pf_9_6 (pc' := 60) hE fl_X9_80 dX9_takeNumber_57 is_6 (by omega) rfl (fun σ20 eσ20 => ?_)
          refine dk_aload_n (pc' := 61) hE dX9_takeNumber_60 rfl rfl rfl ?_
          refine dk_dup (pc' := 62) hE dX9_takeNumber_61 (show (4 : Nat) ≠ 3 by decide) rfl ?_
          refine gf_9_2 (pc' := 65) hE fl_X9_33 dX9_takeNumber_62 is_6 rfl (fun v21 hv21 htv21 hbv21 => ?_)
          have hq21 : v4 = v21 := (show v21 = v4 by rw [hv21, eσ20, dk_up_n (show ¬ (6 = 6 ∧ 2 = 6) by omega), hv14]).symm
          subst hq21
          clear htv21 hbv21
          refine dk_iconst (pc' := 66) hE dX9_takeNumber_65 (by decide) rfl ?_
          obtain ⟨v22, hv22⟩ : ∃ z : Int, z = v4 + 1 := ⟨_, rfl⟩
          refine dk_iadd (pc' := 67) hE dX9_takeNumber_66 hv22.symm (by omega) rfl ?_
          refine pf_9_2 (pc' := 70) hE fl_X9_33 dX9_takeNumber_67 is_6 (by omega) rfl (fun σ23 eσ23 => ?_)
          obtain ⟨v24, hv24⟩ : ∃ z : Int, z = i + 1 := ⟨_, rfl⟩
          refine dk_iinc (pc' := 73) (ls' := [(4, 6), (0, v24)]) hE dX9_takeNumber_70 rfl hv24.symm (by omega) rfl (by decide) rfl ?_
          refine dk_goto (tgt := 12) hE dX9_takeNumber_73 (by decide) ?_
          have hz24_6_6 : σ23 6 6 = v19 := by rw [eσ23, dk_up_n (show ¬ (6 = 6 ∧ 6 = 2) by omega), eσ20, dk_up_s]
          exact ih12 v24 σ23 (by omega) (fun k_ j_ h_ => by rw [eσ23, dk_up_n (show ¬ (k_ = 6 ∧ j_ = 2) from fun q_ => h_ (q_.1)), eσ20, dk_up_n (show ¬ (k_ = 6 ∧ j_ = 6) from fun q_ => h_ (q_.1)), hF12 k_ j_ (fun w_ => h_ (w_))]) (by omega) (by omega)
        · skip
          refine dk_if_eq (tgt := 76) (pc' := 34) hE dX9_takeNumber_31 (by decide) rfl (fun hc26 => ?_) (fun hc26 => absurd hc26 (by decide))
          exact dk_vret (st := []) hE hR dX9_takeNumber_76 ⟨rfl, (fun k_ j_ h_ => by rw [hF12 k_ j_ (fun w_ => h_ (w_)), eσ2, dk_up_n (show ¬ (k_ = 6 ∧ j_ = 6) from fun q_ => h_ (q_.1)), eσ1, dk_up_n (show ¬ (k_ = 6 ∧ j_ = 3) from fun q_ => h_ (q_.1))]), trivial⟩
  have hz26_6_6 : σ2 6 6 = 0 := by rw [eσ2, dk_up_s]
  exact lp12 _ 0 σ2 (Nat.lt_succ_self _) (fun k_ j_ h_ => rfl) (by omega) (by omega)
set_option maxHeartbeats 4000000 in
set_option maxRecDepth 20000 in
theorem ct_X9_advance (l : Launch) (G : dkG) (hGd : dk_Gd G) : dk_Ct l G dk_Ty yX9_advance cX9_advance 4 (none) 5 190 190 (fun av σ => av = [(4, 6)]) (fun _ σ r_ σ' => r_ = none ∧ (∀ k_ j_ : Int, ¬ (k_ = 6) → σ' k_ j_ = σ k_ j_) ∧ (True)) := by
  refine dk_enter hGd (by decide) (fun av σ hpre hok => ?_)
  subst hpre
  refine ⟨Nat.le_of_ble_eq_true rfl, fun E hE hR _ => ?_⟩
  show dk_PJ E 0 [(4, 6), (9, 0), (9, 0), (9, 0)] [] 190 σ
  refine dk_aload_n (pc' := 1) hE dX9_advance_0 rfl rfl rfl ?_
  refine gf_9_3 (pc' := 4) hE fl_X9_37 dX9_advance_1 is_6 rfl (fun v1 hv1 htv1 hbv1 => ?_)
  refine dk_iconst (pc' := 5) hE dX9_advance_4 (by decide) rfl ?_
  refine dk_icmp_ne (tgt := 12) (pc' := 8) hE dX9_advance_5 (by decide) rfl (fun hc2 => ?_) (fun hc2 => ?_)
  · skip
    refine dk_iconst (pc' := 13) hE dX9_advance_12 (by decide) rfl ?_
    refine dk_istore_n (pc' := 14) (ls' := [(4, 6), (0, 0), (9, 0), (9, 0)]) hE dX9_advance_13 rfl rfl (by decide) rfl ?_
    refine dk_aload_n (pc' := 15) hE dX9_advance_14 rfl rfl rfl ?_
    refine gf_9_2 (pc' := 18) hE fl_X9_33 dX9_advance_15 is_6 rfl (fun v3 hv3 htv3 hbv3 => ?_)
    refine dk_istore_n (pc' := 19) (ls' := [(4, 6), (0, 0), (0, v3), (9, 0)]) hE dX9_advance_18 rfl rfl (by decide) rfl ?_
    refine dk_aload_n (pc' := 20) hE dX9_advance_19 rfl rfl rfl ?_
    refine dk_cV (pc' := 23) (as := []) hE lk_X9_43 (ct_X9_skipBlanks l G hGd) dX9_advance_20 rfl is_6 rfl (by decide) (Nat.le_of_ble_eq_true rfl) rfl rfl (fun r5 σ4 hr5 _ => ?_)
    obtain ⟨rfl, hfσ4, hpr5⟩ := hr5
    refine dk_aload_n (pc' := 24) hE dX9_advance_23 rfl rfl rfl ?_
    refine dk_aload_n (pc' := 25) hE dX9_advance_24 rfl rfl rfl ?_
    refine gf_9_2 (pc' := 28) hE fl_X9_33 dX9_advance_25 is_6 rfl (fun v6 hv6 htv6 hbv6 => ?_)
    refine pf_9_4 (pc' := 31) hE fl_X9_46 dX9_advance_28 is_6 (by omega) rfl (fun σ7 eσ7 => ?_)
    refine dk_aload_n (pc' := 32) hE dX9_advance_31 rfl rfl rfl ?_
    refine gf_9_0 (pc' := 35) (w := 1) hE fl_X9_7 dX9_advance_32 is_6 rfl rfl ?_
    refine dk_aload_n (pc' := 36) hE dX9_advance_35 rfl rfl rfl ?_
    refine gf_9_4 (pc' := 39) hE fl_X9_46 dX9_advance_36 is_6 rfl (fun v8 hv8 htv8 hbv8 => ?_)
    have hq8 : v6 = v8 := (show v8 = v6 by rw [hv8, eσ7, dk_up_s]).symm
    subst hq8
    clear htv8 hbv8
    refine dk_cV (pc' := 42) (as := [(0, v6)]) hE lk_X9_49 (ct_X7_at l G hGd v6) dX9_advance_39 rfl is_1 rfl (by decide) (Nat.le_of_ble_eq_true rfl) rfl rfl (fun r10 σ9 hr10 _ => ?_)
    obtain ⟨v11, rfl, hfσ9, hpr10⟩ := hr10
    have hsσ9 : σ7 = σ9 := (funext (fun k => funext (fun j => hfσ9 k j not_false))).symm
    subst hsσ9
    refine dk_istore_n (pc' := 43) (ls' := [(4, 6), (0, 0), (0, v3), (0, v11)]) hE dX9_advance_42 rfl rfl (by decide) rfl ?_
    refine dk_aload_n (pc' := 44) hE dX9_advance_43 rfl rfl rfl ?_
    refine gf_9_4 (pc' := 47) hE fl_X9_46 dX9_advance_44 is_6 rfl (fun v12 hv12 htv12 hbv12 => ?_)
    have hq12 : v6 = v12 := (show v12 = v6 by rw [hv12, hv8]).symm
    subst hq12
    clear htv12 hbv12
    refine dk_aload_n (pc' := 48) hE dX9_advance_47 rfl rfl rfl ?_
    refine gf_9_0 (pc' := 51) (w := 1) hE fl_X9_7 dX9_advance_48 is_6 rfl rfl ?_
    refine gf_7_1 (pc' := 54) hE fl_X9_55 dX9_advance_51 is_1 rfl (fun v13 hv13 htv13 hbv13 => ?_)
    refine dk_icmp_lt (tgt := 65) (pc' := 57) hE dX9_advance_54 (by decide) rfl (fun hc14 => ?_) (fun hc14 => ?_)
    · skip
      refine dk_iload_n (pc' := 66) hE dX9_advance_65 rfl rfl rfl ?_
      refine dk_cS (pc' := 69) (as := [(0, v11)]) hE lk_X9_57 (ct_X9_isLetter l G hGd v11) dX9_advance_66 rfl rfl (by decide) (Nat.le_of_ble_eq_true rfl) rfl rfl (fun r16 σ15 hr16 _ => ?_)
      obtain ⟨v17, rfl, hfσ15, hpr16⟩ := hr16
      have hsσ15 : σ7 = σ15 := (funext (fun k => funext (fun j => hfσ15 k j not_false))).symm
      subst hsσ15
      rcases hpr16 with ⟨rfl, hpr16⟩ | ⟨rfl, hpr16⟩
      · skip
        refine dk_if_eq (tgt := 91) (pc' := 72) hE dX9_advance_69 (by decide) rfl (fun hc18 => absurd hc18 (by decide)) (fun hc18 => ?_)
        refine dk_iload_n (pc' := 73) hE dX9_advance_72 rfl rfl rfl ?_
        refine dk_if_eq (tgt := 84) (pc' := 76) hE dX9_advance_73 (by decide) rfl (fun hc19 => ?_) (fun hc19 => absurd hc19 (by decide))
        refine dk_aload_n (pc' := 85) hE dX9_advance_84 rfl rfl rfl ?_
        refine dk_cV (pc' := 88) (as := []) hE lk_X9_61 (ct_X9_takeWord l G hGd) dX9_advance_85 rfl is_6 rfl (by decide) (Nat.le_of_ble_eq_true rfl) rfl rfl (fun r21 σ20 hr21 _ => ?_)
        obtain ⟨rfl, hfσ20, hpr21⟩ := hr21
        refine dk_goto (tgt := 142) hE dX9_advance_88 (by decide) ?_
        exact dk_vret (st := []) hE hR dX9_advance_142 ⟨rfl, (fun k_ j_ h_ => by rw [hfσ20 k_ j_ (fun w_ => h_ (w_)), eσ7, dk_up_n (show ¬ (k_ = 6 ∧ j_ = 4) from fun q_ => h_ (q_.1)), hfσ4 k_ j_ (fun w_ => h_ (w_))]), trivial⟩
      · skip
        refine dk_if_eq (tgt := 91) (pc' := 72) hE dX9_advance_69 (by decide) rfl (fun hc22 => ?_) (fun hc22 => absurd hc22 (by decide))
        refine dk_iload_n (pc' := 92) hE dX9_advance_91 rfl rfl rfl ?_
        refine dk_cS (pc' := 95) (as := [(0, v11)]) hE lk_X9_64 (ct_X9_isDigit l G hGd v11) dX9_advance_92 rfl rfl (by decide) (Nat.le_of_ble_eq_true rfl) rfl rfl (fun r24 σ23 hr24 _ => ?_)
        obtain ⟨v25, rfl, hfσ23, hpr24⟩ := hr24
        have hsσ23 : σ7 = σ23 := (funext (fun k => funext (fun j => hfσ23 k j not_false))).symm
        subst hsσ23
        rcases hpr24 with ⟨rfl, hpr24⟩ | ⟨rfl, hpr24⟩
        · skip
          refine dk_if_eq (tgt := 105) (pc' := 98) hE dX9_advance_95 (by decide) rfl (fun hc26 => absurd hc26 (by decide)) (fun hc26 => ?_)
          refine dk_aload_n (pc' := 99) hE dX9_advance_98 rfl rfl rfl ?_
          refine dk_cV (pc' := 102) (as := []) hE lk_X9_67 (ct_X9_takeNumber l G hGd) dX9_advance_99 rfl is_6 rfl (by decide) (Nat.le_of_ble_eq_true rfl) rfl rfl (fun r28 σ27 hr28 _ => ?_)
          obtain ⟨rfl, hfσ27, hpr28⟩ := hr28
          refine dk_goto (tgt := 142) hE dX9_advance_102 (by decide) ?_
          exact dk_vret (st := []) hE hR dX9_advance_142 ⟨rfl, (fun k_ j_ h_ => by rw [hfσ27 k_ j_ (fun w_ => h_ (w_)), eσ7, dk_up_n (show ¬ (k_ = 6 ∧ j_ = 4) from fun q_ => h_ (q_.1)), hfσ4 k_ j_ (fun w_ => h_ (w_))]), trivial⟩
        · skip
          refine dk_if_eq (tgt := 105) (pc' := 98) hE dX9_advance_95 (by decide) rfl (fun hc29 => ?_) (fun hc29 => absurd hc29 (by decide))
          refine dk_iload_n (pc' := 106) hE dX9_advance_105 rfl rfl rfl ?_
          refine dk_if_le (tgt := 137) (pc' := 109) hE dX9_advance_106 (by decide) rfl (fun hc30 => ?_) (fun hc30 => ?_)
          · skip
            refine dk_aload_n (pc' := 138) hE dX9_advance_137 rfl rfl rfl ?_
            refine dk_iconst (pc' := 139) hE dX9_advance_138 (by decide) rfl ?_
            refine pf_9_3 (pc' := 142) hE fl_X9_37 dX9_advance_139 is_6 (by omega) rfl (fun σ31 eσ31 => ?_)
            exact dk_vret (st := []) hE hR dX9_advance_142 ⟨rfl, (fun k_ j_ h_ => by rw [eσ31, dk_up_n (show ¬ (k_ = 6 ∧ j_ = 3) from fun q_ => h_ (q_.1)), eσ7, dk_up_n (show ¬ (k_ = 6 ∧ j_ = 4) from fun q_ => h_ (q_.1)), hfσ4 k_ j_ (fun w_ => h_ (w_))]), trivial⟩
          · skip
            refine dk_strT70 (pc' := 111) hE rfl dX9_advance_109 rfl ?_
            refine dk_iload_n (pc' := 112) hE dX9_advance_111 rfl rfl rfl ?_
            refine dk_i2c (pc' := 113) hE dX9_advance_112 rfl (fun v32 hv32 ev32 => ?_)
            refine dk_cW (pc' := 116) (as := [(0, v32)]) hE lk_X9_72 (ct_J0_indexOf_0f7a4 l G hGd (-11) v32) dX9_advance_113 rfl (by omega) rfl (by decide) (Nat.le_of_ble_eq_true rfl) ⟨rfl, (by omega)⟩ rfl (fun r34 σ33 hr34 _ => ?_)
            obtain ⟨v35, rfl, hfσ33, hpr34⟩ := hr34
            have hsσ33 : σ7 = σ33 := (funext (fun k => funext (fun j => hfσ33 k j not_false))).symm
            subst hsσ33
            refine dk_if_lt (tgt := 137) (pc' := 119) hE dX9_advance_116 (by decide) rfl (fun hc36 => ?_) (fun hc36 => ?_)
            · skip
              refine dk_aload_n (pc' := 138) hE dX9_advance_137 rfl rfl rfl ?_
              refine dk_iconst (pc' := 139) hE dX9_advance_138 (by decide) rfl ?_
              refine pf_9_3 (pc' := 142) hE fl_X9_37 dX9_advance_139 is_6 (by omega) rfl (fun σ37 eσ37 => ?_)
              exact dk_vret (st := []) hE hR dX9_advance_142 ⟨rfl, (fun k_ j_ h_ => by rw [eσ37, dk_up_n (show ¬ (k_ = 6 ∧ j_ = 3) from fun q_ => h_ (q_.1)), eσ7, dk_up_n (show ¬ (k_ = 6 ∧ j_ = 4) from fun q_ => h_ (q_.1)), hfσ4 k_ j_ (fun w_ => h_ (w_))]), trivial⟩
            · skip
              refine dk_aload_n (pc' := 120) hE dX9_advance_119 rfl rfl rfl ?_
              refine dk_iload_n (pc' := 121) hE dX9_advance_120 rfl rfl rfl ?_
              refine pf_9_3 (pc' := 124) hE fl_X9_37 dX9_advance_121 is_6 (by omega) rfl (fun σ38 eσ38 => ?_)
              refine dk_aload_n (pc' := 125) hE dX9_advance_124 rfl rfl rfl ?_
              refine dk_dup (pc' := 126) hE dX9_advance_125 (show (4 : Nat) ≠ 3 by decide) rfl ?_
              refine gf_9_2 (pc' := 129) hE fl_X9_33 dX9_advance_126 is_6 rfl (fun v39 hv39 htv39 hbv39 => ?_)
              have hq39 : v6 = v39 := (show v39 = v6 by rw [hv39, eσ38, dk_up_n (show ¬ (6 = 6 ∧ 2 = 3) by omega), eσ7, dk_up_n (show ¬ (6 = 6 ∧ 2 = 4) by omega), hv6]).symm
              subst hq39
              clear htv39 hbv39
              refine dk_iconst (pc' := 130) hE dX9_advance_129 (by decide) rfl ?_
              obtain ⟨v40, hv40⟩ : ∃ z : Int, z = v6 + 1 := ⟨_, rfl⟩
              refine dk_iadd (pc' := 131) hE dX9_advance_130 hv40.symm (by omega) rfl ?_
              refine pf_9_2 (pc' := 134) hE fl_X9_33 dX9_advance_131 is_6 (by omega) rfl (fun σ41 eσ41 => ?_)
              refine dk_goto (tgt := 142) hE dX9_advance_134 (by decide) ?_
              exact dk_vret (st := []) hE hR dX9_advance_142 ⟨rfl, (fun k_ j_ h_ => by rw [eσ41, dk_up_n (show ¬ (k_ = 6 ∧ j_ = 2) from fun q_ => h_ (q_.1)), eσ38, dk_up_n (show ¬ (k_ = 6 ∧ j_ = 3) from fun q_ => h_ (q_.1)), eσ7, dk_up_n (show ¬ (k_ = 6 ∧ j_ = 4) from fun q_ => h_ (q_.1)), hfσ4 k_ j_ (fun w_ => h_ (w_))]), trivial⟩
    · skip
      refine dk_aload_n (pc' := 58) hE dX9_advance_57 rfl rfl rfl ?_
      refine dk_iconst (pc' := 59) hE dX9_advance_58 (by decide) rfl ?_
      refine pf_9_3 (pc' := 62) hE fl_X9_37 dX9_advance_59 is_6 (by omega) rfl (fun σ42 eσ42 => ?_)
      refine dk_goto (tgt := 142) hE dX9_advance_62 (by decide) ?_
      exact dk_vret (st := []) hE hR dX9_advance_142 ⟨rfl, (fun k_ j_ h_ => by rw [eσ42, dk_up_n (show ¬ (k_ = 6 ∧ j_ = 3) from fun q_ => h_ (q_.1)), eσ7, dk_up_n (show ¬ (k_ = 6 ∧ j_ = 4) from fun q_ => h_ (q_.1)), hfσ4 k_ j_ (fun w_ => h_ (w_))]), trivial⟩
  · skip
    refine dk_iconst (pc' := 9) hE dX9_advance_8 (by decide) rfl ?_
    refine dk_goto (tgt := 13) hE dX9_advance_9 (by decide) ?_
    refine dk_istore_n (pc' := 14) (ls' := [(4, 6), (0, 1), (9, 0), (9, 0)]) hE dX9_advance_13 rfl rfl (by decide) rfl ?_
    refine dk_aload_n (pc' := 15) hE dX9_advance_14 rfl rfl rfl ?_
    refine gf_9_2 (pc' := 18) hE fl_X9_33 dX9_advance_15 is_6 rfl (fun v43 hv43 htv43 hbv43 => ?_)
    refine dk_istore_n (pc' := 19) (ls' := [(4, 6), (0, 1), (0, v43), (9, 0)]) hE dX9_advance_18 rfl rfl (by decide) rfl ?_
    refine dk_aload_n (pc' := 20) hE dX9_advance_19 rfl rfl rfl ?_
    refine dk_cV (pc' := 23) (as := []) hE lk_X9_43 (ct_X9_skipBlanks l G hGd) dX9_advance_20 rfl is_6 rfl (by decide) (Nat.le_of_ble_eq_true rfl) rfl rfl (fun r45 σ44 hr45 _ => ?_)
    obtain ⟨rfl, hfσ44, hpr45⟩ := hr45
    refine dk_aload_n (pc' := 24) hE dX9_advance_23 rfl rfl rfl ?_
    refine dk_aload_n (pc' := 25) hE dX9_advance_24 rfl rfl rfl ?_
    refine gf_9_2 (pc' := 28) hE fl_X9_33 dX9_advance_25 is_6 rfl (fun v46 hv46 htv46 hbv46 => ?_)
    refine pf_9_4 (pc' := 31) hE fl_X9_46 dX9_advance_28 is_6 (by omega) rfl (fun σ47 eσ47 => ?_)
    refine dk_aload_n (pc' := 32) hE dX9_advance_31 rfl rfl rfl ?_
    refine gf_9_0 (pc' := 35) (w := 1) hE fl_X9_7 dX9_advance_32 is_6 rfl rfl ?_
    refine dk_aload_n (pc' := 36) hE dX9_advance_35 rfl rfl rfl ?_
    refine gf_9_4 (pc' := 39) hE fl_X9_46 dX9_advance_36 is_6 rfl (fun v48 hv48 htv48 hbv48 => ?_)
    have hq48 : v46 = v48 := (show v48 = v46 by rw [hv48, eσ47, dk_up_s]).symm
    subst hq48
    clear htv48 hbv48
    refine dk_cV (pc' := 42) (as := [(0, v46)]) hE lk_X9_49 (ct_X7_at l G hGd v46) dX9_advance_39 rfl is_1 rfl (by decide) (Nat.le_of_ble_eq_true rfl) rfl rfl (fun r50 σ49 hr50 _ => ?_)
    obtain ⟨v51, rfl, hfσ49, hpr50⟩ := hr50
    have hsσ49 : σ47 = σ49 := (funext (fun k => funext (fun j => hfσ49 k j not_false))).symm
    subst hsσ49
    refine dk_istore_n (pc' := 43) (ls' := [(4, 6), (0, 1), (0, v43), (0, v51)]) hE dX9_advance_42 rfl rfl (by decide) rfl ?_
    refine dk_aload_n (pc' := 44) hE dX9_advance_43 rfl rfl rfl ?_
    refine gf_9_4 (pc' := 47) hE fl_X9_46 dX9_advance_44 is_6 rfl (fun v52 hv52 htv52 hbv52 => ?_)
    have hq52 : v46 = v52 := (show v52 = v46 by rw [hv52, hv48]).symm
    subst hq52
    clear htv52 hbv52
    refine dk_aload_n (pc' := 48) hE dX9_advance_47 rfl rfl rfl ?_
    refine gf_9_0 (pc' := 51) (w := 1) hE fl_X9_7 dX9_advance_48 is_6 rfl rfl ?_
    refine gf_7_1 (pc' := 54) hE fl_X9_55 dX9_advance_51 is_1 rfl (fun v53 hv53 htv53 hbv53 => ?_)
    refine dk_icmp_lt (tgt := 65) (pc' := 57) hE dX9_advance_54 (by decide) rfl (fun hc54 => ?_) (fun hc54 => ?_)
    · skip
      refine dk_iload_n (pc' := 66) hE dX9_advance_65 rfl rfl rfl ?_
      refine dk_cS (pc' := 69) (as := [(0, v51)]) hE lk_X9_57 (ct_X9_isLetter l G hGd v51) dX9_advance_66 rfl rfl (by decide) (Nat.le_of_ble_eq_true rfl) rfl rfl (fun r56 σ55 hr56 _ => ?_)
      obtain ⟨v57, rfl, hfσ55, hpr56⟩ := hr56
      have hsσ55 : σ47 = σ55 := (funext (fun k => funext (fun j => hfσ55 k j not_false))).symm
      subst hsσ55
      rcases hpr56 with ⟨rfl, hpr56⟩ | ⟨rfl, hpr56⟩
      · skip
        refine dk_if_eq (tgt := 91) (pc' := 72) hE dX9_advance_69 (by decide) rfl (fun hc58 => absurd hc58 (by decide)) (fun hc58 => ?_)
        refine dk_iload_n (pc' := 73) hE dX9_advance_72 rfl rfl rfl ?_
        refine dk_if_eq (tgt := 84) (pc' := 76) hE dX9_advance_73 (by decide) rfl (fun hc59 => absurd hc59 (by decide)) (fun hc59 => ?_)
        refine dk_aload_n (pc' := 77) hE dX9_advance_76 rfl rfl rfl ?_
        refine gf_9_4 (pc' := 80) hE fl_X9_46 dX9_advance_77 is_6 rfl (fun v60 hv60 htv60 hbv60 => ?_)
        have hq60 : v46 = v60 := (show v60 = v46 by rw [hv60, hv52]).symm
        subst hq60
        clear htv60 hbv60
        refine dk_iload_n (pc' := 81) hE dX9_advance_80 rfl rfl rfl ?_
        refine dk_icmp_eq (tgt := 91) (pc' := 84) hE dX9_advance_81 (by decide) rfl (fun hc61 => ?_) (fun hc61 => ?_)
        · skip
          refine dk_iload_n (pc' := 92) hE dX9_advance_91 rfl rfl rfl ?_
          refine dk_cS (pc' := 95) (as := [(0, v51)]) hE lk_X9_64 (ct_X9_isDigit l G hGd v51) dX9_advance_92 rfl rfl (by decide) (Nat.le_of_ble_eq_true rfl) rfl rfl (fun r63 σ62 hr63 _ => ?_)
          obtain ⟨v64, rfl, hfσ62, hpr63⟩ := hr63
          have hsσ62 : σ47 = σ62 := (funext (fun k => funext (fun j => hfσ62 k j not_false))).symm
          subst hsσ62
          rcases hpr63 with ⟨rfl, hpr63⟩ | ⟨rfl, hpr63⟩
          · skip
            refine dk_if_eq (tgt := 105) (pc' := 98) hE dX9_advance_95 (by decide) rfl (fun hc65 => absurd hc65 (by decide)) (fun hc65 => ?_)
            refine dk_aload_n (pc' := 99) hE dX9_advance_98 rfl rfl rfl ?_
            refine dk_cV (pc' := 102) (as := []) hE lk_X9_67 (ct_X9_takeNumber l G hGd) dX9_advance_99 rfl is_6 rfl (by decide) (Nat.le_of_ble_eq_true rfl) rfl rfl (fun r67 σ66 hr67 _ => ?_)
            obtain ⟨rfl, hfσ66, hpr67⟩ := hr67
            refine dk_goto (tgt := 142) hE dX9_advance_102 (by decide) ?_
            exact dk_vret (st := []) hE hR dX9_advance_142 ⟨rfl, (fun k_ j_ h_ => by rw [hfσ66 k_ j_ (fun w_ => h_ (w_)), eσ47, dk_up_n (show ¬ (k_ = 6 ∧ j_ = 4) from fun q_ => h_ (q_.1)), hfσ44 k_ j_ (fun w_ => h_ (w_))]), trivial⟩
          · skip
            refine dk_if_eq (tgt := 105) (pc' := 98) hE dX9_advance_95 (by decide) rfl (fun hc68 => ?_) (fun hc68 => absurd hc68 (by decide))
            refine dk_iload_n (pc' := 106) hE dX9_advance_105 rfl rfl rfl ?_
            refine dk_if_le (tgt := 137) (pc' := 109) hE dX9_advance_106 (by decide) rfl (fun hc69 => ?_) (fun hc69 => ?_)
            · skip
              refine dk_aload_n (pc' := 138) hE dX9_advance_137 rfl rfl rfl ?_
              refine dk_iconst (pc' := 139) hE dX9_advance_138 (by decide) rfl ?_
              refine pf_9_3 (pc' := 142) hE fl_X9_37 dX9_advance_139 is_6 (by omega) rfl (fun σ70 eσ70 => ?_)
              exact dk_vret (st := []) hE hR dX9_advance_142 ⟨rfl, (fun k_ j_ h_ => by rw [eσ70, dk_up_n (show ¬ (k_ = 6 ∧ j_ = 3) from fun q_ => h_ (q_.1)), eσ47, dk_up_n (show ¬ (k_ = 6 ∧ j_ = 4) from fun q_ => h_ (q_.1)), hfσ44 k_ j_ (fun w_ => h_ (w_))]), trivial⟩
            · skip
              refine dk_strT70 (pc' := 111) hE rfl dX9_advance_109 rfl ?_
              refine dk_iload_n (pc' := 112) hE dX9_advance_111 rfl rfl rfl ?_
              refine dk_i2c (pc' := 113) hE dX9_advance_112 rfl (fun v71 hv71 ev71 => ?_)
              refine dk_cW (pc' := 116) (as := [(0, v71)]) hE lk_X9_72 (ct_J0_indexOf_0f7a4 l G hGd (-11) v71) dX9_advance_113 rfl (by omega) rfl (by decide) (Nat.le_of_ble_eq_true rfl) ⟨rfl, (by omega)⟩ rfl (fun r73 σ72 hr73 _ => ?_)
              obtain ⟨v74, rfl, hfσ72, hpr73⟩ := hr73
              have hsσ72 : σ47 = σ72 := (funext (fun k => funext (fun j => hfσ72 k j not_false))).symm
              subst hsσ72
              refine dk_if_lt (tgt := 137) (pc' := 119) hE dX9_advance_116 (by decide) rfl (fun hc75 => ?_) (fun hc75 => ?_)
              · skip
                refine dk_aload_n (pc' := 138) hE dX9_advance_137 rfl rfl rfl ?_
                refine dk_iconst (pc' := 139) hE dX9_advance_138 (by decide) rfl ?_
                refine pf_9_3 (pc' := 142) hE fl_X9_37 dX9_advance_139 is_6 (by omega) rfl (fun σ76 eσ76 => ?_)
                exact dk_vret (st := []) hE hR dX9_advance_142 ⟨rfl, (fun k_ j_ h_ => by rw [eσ76, dk_up_n (show ¬ (k_ = 6 ∧ j_ = 3) from fun q_ => h_ (q_.1)), eσ47, dk_up_n (show ¬ (k_ = 6 ∧ j_ = 4) from fun q_ => h_ (q_.1)), hfσ44 k_ j_ (fun w_ => h_ (w_))]), trivial⟩
              · skip
                refine dk_aload_n (pc' := 120) hE dX9_advance_119 rfl rfl rfl ?_
                refine dk_iload_n (pc' := 121) hE dX9_advance_120 rfl rfl rfl ?_
                refine pf_9_3 (pc' := 124) hE fl_X9_37 dX9_advance_121 is_6 (by omega) rfl (fun σ77 eσ77 => ?_)
                refine dk_aload_n (pc' := 125) hE dX9_advance_124 rfl rfl rfl ?_
                refine dk_dup (pc' := 126) hE dX9_advance_125 (show (4 : Nat) ≠ 3 by decide) rfl ?_
                refine gf_9_2 (pc' := 129) hE fl_X9_33 dX9_advance_126 is_6 rfl (fun v78 hv78 htv78 hbv78 => ?_)
                have hq78 : v46 = v78 := (show v78 = v46 by rw [hv78, eσ77, dk_up_n (show ¬ (6 = 6 ∧ 2 = 3) by omega), eσ47, dk_up_n (show ¬ (6 = 6 ∧ 2 = 4) by omega), hv46]).symm
                subst hq78
                clear htv78 hbv78
                refine dk_iconst (pc' := 130) hE dX9_advance_129 (by decide) rfl ?_
                obtain ⟨v79, hv79⟩ : ∃ z : Int, z = v46 + 1 := ⟨_, rfl⟩
                refine dk_iadd (pc' := 131) hE dX9_advance_130 hv79.symm (by omega) rfl ?_
                refine pf_9_2 (pc' := 134) hE fl_X9_33 dX9_advance_131 is_6 (by omega) rfl (fun σ80 eσ80 => ?_)
                refine dk_goto (tgt := 142) hE dX9_advance_134 (by decide) ?_
                exact dk_vret (st := []) hE hR dX9_advance_142 ⟨rfl, (fun k_ j_ h_ => by rw [eσ80, dk_up_n (show ¬ (k_ = 6 ∧ j_ = 2) from fun q_ => h_ (q_.1)), eσ77, dk_up_n (show ¬ (k_ = 6 ∧ j_ = 3) from fun q_ => h_ (q_.1)), eσ47, dk_up_n (show ¬ (k_ = 6 ∧ j_ = 4) from fun q_ => h_ (q_.1)), hfσ44 k_ j_ (fun w_ => h_ (w_))]), trivial⟩
        · skip
          refine dk_aload_n (pc' := 85) hE dX9_advance_84 rfl rfl rfl ?_
          refine dk_cV (pc' := 88) (as := []) hE lk_X9_61 (ct_X9_takeWord l G hGd) dX9_advance_85 rfl is_6 rfl (by decide) (Nat.le_of_ble_eq_true rfl) rfl rfl (fun r82 σ81 hr82 _ => ?_)
          obtain ⟨rfl, hfσ81, hpr82⟩ := hr82
          refine dk_goto (tgt := 142) hE dX9_advance_88 (by decide) ?_
          exact dk_vret (st := []) hE hR dX9_advance_142 ⟨rfl, (fun k_ j_ h_ => by rw [hfσ81 k_ j_ (fun w_ => h_ (w_)), eσ47, dk_up_n (show ¬ (k_ = 6 ∧ j_ = 4) from fun q_ => h_ (q_.1)), hfσ44 k_ j_ (fun w_ => h_ (w_))]), trivial⟩
      · skip
        refine dk_if_eq (tgt := 91) (pc' := 72) hE dX9_advance_69 (by decide) rfl (fun hc83 => ?_) (fun hc83 => absurd hc83 (by decide))
        refine dk_iload_n (pc' := 92) hE dX9_advance_91 rfl rfl rfl ?_
        refine dk_cS (pc' := 95) (as := [(0, v51)]) hE lk_X9_64 (ct_X9_isDigit l G hGd v51) dX9_advance_92 rfl rfl (by decide) (Nat.le_of_ble_eq_true rfl) rfl rfl (fun r85 σ84 hr85 _ => ?_)
        obtain ⟨v86, rfl, hfσ84, hpr85⟩ := hr85
        have hsσ84 : σ47 = σ84 := (funext (fun k => funext (fun j => hfσ84 k j not_false))).symm
        subst hsσ84
        rcases hpr85 with ⟨rfl, hpr85⟩ | ⟨rfl, hpr85⟩
        · skip
          refine dk_if_eq (tgt := 105) (pc' := 98) hE dX9_advance_95 (by decide) rfl (fun hc87 => absurd hc87 (by decide)) (fun hc87 => ?_)
          refine dk_aload_n (pc' := 99) hE dX9_advance_98 rfl rfl rfl ?_
          refine dk_cV (pc' := 102) (as := []) hE lk_X9_67 (ct_X9_takeNumber l G hGd) dX9_advance_99 rfl is_6 rfl (by decide) (Nat.le_of_ble_eq_true rfl) rfl rfl (fun r89 σ88 hr89 _ => ?_)
          obtain ⟨rfl, hfσ88, hpr89⟩ := hr89
          refine dk_goto (tgt := 142) hE dX9_advance_102 (by decide) ?_
          exact dk_vret (st := []) hE hR dX9_advance_142 ⟨rfl, (fun k_ j_ h_ => by rw [hfσ88 k_ j_ (fun w_ => h_ (w_)), eσ47, dk_up_n (show ¬ (k_ = 6 ∧ j_ = 4) from fun q_ => h_ (q_.1)), hfσ44 k_ j_ (fun w_ => h_ (w_))]), trivial⟩
        · skip
          refine dk_if_eq (tgt := 105) (pc' := 98) hE dX9_advance_95 (by decide) rfl (fun hc90 => ?_) (fun hc90 => absurd hc90 (by decide))
          refine dk_iload_n (pc' := 106) hE dX9_advance_105 rfl rfl rfl ?_
          refine dk_if_le (tgt := 137) (pc' := 109) hE dX9_advance_106 (by decide) rfl (fun hc91 => ?_) (fun hc91 => ?_)
          · skip
            refine dk_aload_n (pc' := 138) hE dX9_advance_137 rfl rfl rfl ?_
            refine dk_iconst (pc' := 139) hE dX9_advance_138 (by decide) rfl ?_
            refine pf_9_3 (pc' := 142) hE fl_X9_37 dX9_advance_139 is_6 (by omega) rfl (fun σ92 eσ92 => ?_)
            exact dk_vret (st := []) hE hR dX9_advance_142 ⟨rfl, (fun k_ j_ h_ => by rw [eσ92, dk_up_n (show ¬ (k_ = 6 ∧ j_ = 3) from fun q_ => h_ (q_.1)), eσ47, dk_up_n (show ¬ (k_ = 6 ∧ j_ = 4) from fun q_ => h_ (q_.1)), hfσ44 k_ j_ (fun w_ => h_ (w_))]), trivial⟩
          · skip
            refine dk_strT70 (pc' := 111) hE rfl dX9_advance_109 rfl ?_
            refine dk_iload_n (pc' := 112) hE dX9_advance_111 rfl rfl rfl ?_
            refine dk_i2c (pc' := 113) hE dX9_advance_112 rfl (fun v93 hv93 ev93 => ?_)
            refine dk_cW (pc' := 116) (as := [(0, v93)]) hE lk_X9_72 (ct_J0_indexOf_0f7a4 l G hGd (-11) v93) dX9_advance_113 rfl (by omega) rfl (by decide) (Nat.le_of_ble_eq_true rfl) ⟨rfl, (by omega)⟩ rfl (fun r95 σ94 hr95 _ => ?_)
            obtain ⟨v96, rfl, hfσ94, hpr95⟩ := hr95
            have hsσ94 : σ47 = σ94 := (funext (fun k => funext (fun j => hfσ94 k j not_false))).symm
            subst hsσ94
            refine dk_if_lt (tgt := 137) (pc' := 119) hE dX9_advance_116 (by decide) rfl (fun hc97 => ?_) (fun hc97 => ?_)
            · skip
              refine dk_aload_n (pc' := 138) hE dX9_advance_137 rfl rfl rfl ?_
              refine dk_iconst (pc' := 139) hE dX9_advance_138 (by decide) rfl ?_
              refine pf_9_3 (pc' := 142) hE fl_X9_37 dX9_advance_139 is_6 (by omega) rfl (fun σ98 eσ98 => ?_)
              exact dk_vret (st := []) hE hR dX9_advance_142 ⟨rfl, (fun k_ j_ h_ => by rw [eσ98, dk_up_n (show ¬ (k_ = 6 ∧ j_ = 3) from fun q_ => h_ (q_.1)), eσ47, dk_up_n (show ¬ (k_ = 6 ∧ j_ = 4) from fun q_ => h_ (q_.1)), hfσ44 k_ j_ (fun w_ => h_ (w_))]), trivial⟩
            · skip
              refine dk_aload_n (pc' := 120) hE dX9_advance_119 rfl rfl rfl ?_
              refine dk_iload_n (pc' := 121) hE dX9_advance_120 rfl rfl rfl ?_
              refine pf_9_3 (pc' := 124) hE fl_X9_37 dX9_advance_121 is_6 (by omega) rfl (fun σ99 eσ99 => ?_)
              refine dk_aload_n (pc' := 125) hE dX9_advance_124 rfl rfl rfl ?_
              refine dk_dup (pc' := 126) hE dX9_advance_125 (show (4 : Nat) ≠ 3 by decide) rfl ?_
              refine gf_9_2 (pc' := 129) hE fl_X9_33 dX9_advance_126 is_6 rfl (fun v100 hv100 htv100 hbv100 => ?_)
              have hq100 : v46 = v100 := (show v100 = v46 by rw [hv100, eσ99, dk_up_n (show ¬ (6 = 6 ∧ 2 = 3) by omega), eσ47, dk_up_n (show ¬ (6 = 6 ∧ 2 = 4) by omega), hv46]).symm
              subst hq100
              clear htv100 hbv100
              refine dk_iconst (pc' := 130) hE dX9_advance_129 (by decide) rfl ?_
              obtain ⟨v101, hv101⟩ : ∃ z : Int, z = v46 + 1 := ⟨_, rfl⟩
              refine dk_iadd (pc' := 131) hE dX9_advance_130 hv101.symm (by omega) rfl ?_
              refine pf_9_2 (pc' := 134) hE fl_X9_33 dX9_advance_131 is_6 (by omega) rfl (fun σ102 eσ102 => ?_)
              refine dk_goto (tgt := 142) hE dX9_advance_134 (by decide) ?_
              exact dk_vret (st := []) hE hR dX9_advance_142 ⟨rfl, (fun k_ j_ h_ => by rw [eσ102, dk_up_n (show ¬ (k_ = 6 ∧ j_ = 2) from fun q_ => h_ (q_.1)), eσ99, dk_up_n (show ¬ (k_ = 6 ∧ j_ = 3) from fun q_ => h_ (q_.1)), eσ47, dk_up_n (show ¬ (k_ = 6 ∧ j_ = 4) from fun q_ => h_ (q_.1)), hfσ44 k_ j_ (fun w_ => h_ (w_))]), trivial⟩
    · skip
      refine dk_aload_n (pc' := 58) hE dX9_advance_57 rfl rfl rfl ?_
      refine dk_iconst (pc' := 59) hE dX9_advance_58 (by decide) rfl ?_
      refine pf_9_3 (pc' := 62) hE fl_X9_37 dX9_advance_59 is_6 (by omega) rfl (fun σ103 eσ103 => ?_)
      refine dk_goto (tgt := 142) hE dX9_advance_62 (by decide) ?_
      exact dk_vret (st := []) hE hR dX9_advance_142 ⟨rfl, (fun k_ j_ h_ => by rw [eσ103, dk_up_n (show ¬ (k_ = 6 ∧ j_ = 3) from fun q_ => h_ (q_.1)), eσ47, dk_up_n (show ¬ (k_ = 6 ∧ j_ = 4) from fun q_ => h_ (q_.1)), hfσ44 k_ j_ (fun w_ => h_ (w_))]), trivial⟩
set_option maxHeartbeats 4000000 in
set_option maxRecDepth 20000 in
theorem ct_X9_start (l : Launch) (G : dkG) (hGd : dk_Gd G) : dk_Ct l G dk_Ty yX9_start cX9_start 1 (none) 6 190 190 (fun av σ => av = [(4, 6)]) (fun _ σ r_ σ' => r_ = none ∧ (∀ k_ j_ : Int, ¬ (k_ = 6) → σ' k_ j_ = σ k_ j_) ∧ (True)) := by
  refine dk_enter hGd (by decide) (fun av σ hpre hok => ?_)
  subst hpre
  refine ⟨Nat.le_of_ble_eq_true rfl, fun E hE hR _ => ?_⟩
  show dk_PJ E 0 [(4, 6)] [] 190 σ
  refine dk_aload_n (pc' := 1) hE dX9_start_0 rfl rfl rfl ?_
  refine dk_iconst (pc' := 2) hE dX9_start_1 (by decide) rfl ?_
  refine pf_9_2 (pc' := 5) hE fl_X9_33 dX9_start_2 is_6 (by omega) rfl (fun σ1 eσ1 => ?_)
  refine dk_aload_n (pc' := 6) hE dX9_start_5 rfl rfl rfl ?_
  refine dk_iconst (pc' := 7) hE dX9_start_6 (by decide) rfl ?_
  refine pf_9_3 (pc' := 10) hE fl_X9_37 dX9_start_7 is_6 (by omega) rfl (fun σ2 eσ2 => ?_)
  refine dk_aload_n (pc' := 11) hE dX9_start_10 rfl rfl rfl ?_
  refine dk_cV (pc' := 14) (as := []) hE lk_X9_40 (ct_X9_advance l G hGd) dX9_start_11 rfl is_6 rfl (by decide) (Nat.le_of_ble_eq_true rfl) rfl rfl (fun r4 σ3 hr4 _ => ?_)
  obtain ⟨rfl, hfσ3, hpr4⟩ := hr4
  exact dk_vret (st := []) hE hR dX9_start_14 ⟨rfl, (fun k_ j_ h_ => by rw [hfσ3 k_ j_ (fun w_ => h_ (w_)), eσ2, dk_up_n (show ¬ (k_ = 6 ∧ j_ = 3) from fun q_ => h_ (q_.1)), eσ1, dk_up_n (show ¬ (k_ = 6 ∧ j_ = 2) from fun q_ => h_ (q_.1))]), trivial⟩
