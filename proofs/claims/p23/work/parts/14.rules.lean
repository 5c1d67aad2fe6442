set_option maxHeartbeats 4000000 in
set_option maxRecDepth 20000 in
theorem ct_J7_fill_53178_28 (l : Launch) (G : dkG) (hGd : dk_Gd G) (k v : Int) : dk_Ct l G dk_Ty yJ7_fill_53178 cJ7_fill_53178 4 (none) 1 190 190 (fun av σ => av = [(4, k), (0, v)] ∧ (dk_is 190 28 k) ∧ (v = -1)) (fun _ σ r_ σ' => r_ = none ∧ (∀ k_ j_ : Int, ¬ (k_ = k) → σ' k_ j_ = σ k_ j_) ∧ (True)) := by
  refine dk_enter hGd (by decide) (fun av σ hpre hok => ?_)
  obtain ⟨rfl, hk, hv⟩ := hpre
  refine ⟨Nat.le_of_ble_eq_true rfl, fun E hE hR _ => ?_⟩
  have hi_v : dk_i32 v := dk_oki (hok _ (by simp))
  show dk_PJ E 0 [(4, k), (0, v), (9, 0), (9, 0)] [] 190 σ
  refine dk_iconst (pc' := 1) hE dJ7_fill_53178_0 (by decide) rfl ?_
  refine dk_istore_n (pc' := 2) (ls' := [(4, k), (0, v), (0, 0), (9, 0)]) hE dJ7_fill_53178_1 rfl rfl (by decide) rfl ?_
  refine dk_aload_n (pc' := 3) hE dJ7_fill_53178_2 rfl rfl rfl ?_
  refine dk_alen (pc' := 4) hE dJ7_fill_53178_3 hk rfl (w := 3) rfl (by decide) rfl ?_
  refine dk_istore_n (pc' := 5) (ls' := [(4, k), (0, v), (0, 0), (0, 3)]) hE dJ7_fill_53178_4 rfl rfl (by decide) rfl ?_
  have lp5 : ∀ (N_ : Nat) (i : Int) (σ5c : dkS), (2147483648 - i).toNat < N_ → ((∀ k_ j_ : Int, ¬ (k_ = k) → σ5c k_ j_ = σ k_ j_)) → (0 ≤ i) → dk_PJ E 5 [(4, k), (0, v), (0, i), (0, 3)] [] 190 σ5c := by
    intro N5
    induction N5 with
    | zero => intro i σ5c hm; exact absurd hm (Nat.not_lt_zero _)
    | succ N5 ih5 =>
      intro i σ5c hm5 hF5 hi
      refine dk_iload_n (pc' := 6) hE dJ7_fill_53178_5 rfl rfl rfl ?_
      refine dk_iload_n (pc' := 7) hE dJ7_fill_53178_6 rfl rfl rfl ?_
      refine dk_icmp_ge (tgt := 20) (pc' := 10) hE dJ7_fill_53178_7 (by decide) rfl (fun hc1 => ?_) (fun hc1 => ?_)
      · skip
        exact dk_vret (st := []) hE hR dJ7_fill_53178_20 ⟨rfl, (fun k_ j_ h_ => by rw [hF5 k_ j_ (fun w_ => h_ (w_))]), trivial⟩
      · skip
        refine dk_aload_n (pc' := 11) hE dJ7_fill_53178_10 rfl rfl rfl ?_
        refine dk_iload_n (pc' := 12) hE dJ7_fill_53178_11 rfl rfl rfl ?_
        refine dk_iload_n (pc' := 13) hE dJ7_fill_53178_12 rfl rfl rfl ?_
        refine pa_28 (pc' := 14) hE dJ7_fill_53178_13 hk (by omega) (by omega) rfl (fun σ2 eσ2 => ?_)
        obtain ⟨v3, hv3⟩ : ∃ z : Int, z = i + 1 := ⟨_, rfl⟩
        refine dk_iinc (pc' := 17) (ls' := [(4, k), (0, v), (0, v3), (0, 3)]) hE dJ7_fill_53178_14 rfl hv3.symm (by omega) rfl (by decide) rfl ?_
        refine dk_goto (tgt := 5) hE dJ7_fill_53178_17 (by decide) ?_
        exact ih5 v3 σ2 (by omega) (fun k_ j_ h_ => by rw [eσ2, dk_up_n (show ¬ (k_ = k ∧ j_ = i) from fun q_ => h_ (q_.1)), hF5 k_ j_ (fun w_ => h_ (w_))]) (by omega)
  exact lp5 _ 0 σ (Nat.lt_succ_self _) (fun k_ j_ h_ => rfl) (by omega)
set_option maxHeartbeats 4000000 in
set_option maxRecDepth 20000 in
theorem ct_J7_fill_53178_29 (l : Launch) (G : dkG) (hGd : dk_Gd G) (k v : Int) : dk_Ct l G dk_Ty yJ7_fill_53178 cJ7_fill_53178 4 (none) 1 190 190 (fun av σ => av = [(4, k), (0, v)] ∧ (dk_is 190 29 k) ∧ (v = -1)) (fun _ σ r_ σ' => r_ = none ∧ (∀ k_ j_ : Int, ¬ (k_ = k) → σ' k_ j_ = σ k_ j_) ∧ (True)) := by
  refine dk_enter hGd (by decide) (fun av σ hpre hok => ?_)
  obtain ⟨rfl, hk, hv⟩ := hpre
  refine ⟨Nat.le_of_ble_eq_true rfl, fun E hE hR _ => ?_⟩
  have hi_v : dk_i32 v := dk_oki (hok _ (by simp))
  show dk_PJ E 0 [(4, k), (0, v), (9, 0), (9, 0)] [] 190 σ
  refine dk_iconst (pc' := 1) hE dJ7_fill_53178_0 (by decide) rfl ?_
  refine dk_istore_n (pc' := 2) (ls' := [(4, k), (0, v), (0, 0), (9, 0)]) hE dJ7_fill_53178_1 rfl rfl (by decide) rfl ?_
  refine dk_aload_n (pc' := 3) hE dJ7_fill_53178_2 rfl rfl rfl ?_
  refine dk_alen (pc' := 4) hE dJ7_fill_53178_3 hk rfl (w := 3) rfl (by decide) rfl ?_
  refine dk_istore_n (pc' := 5) (ls' := [(4, k), (0, v), (0, 0), (0, 3)]) hE dJ7_fill_53178_4 rfl rfl (by decide) rfl ?_
  have lp5 : ∀ (N_ : Nat) (i : Int) (σ5c : dkS), (2147483648 - i).toNat < N_ → ((∀ k_ j_ : Int, ¬ (k_ = k) → σ5c k_ j_ = σ k_ j_)) → (0 ≤ i) → dk_PJ E 5 [(4, k), (0, v), (0, i), (0, 3)] [] 190 σ5c := by
    intro N5
    induction N5 with
    | zero => intro i σ5c hm; exact absurd hm (Nat.not_lt_zero _)
    | succ N5 ih5 =>
      intro i σ5c hm5 hF5 hi
      refine dk_iload_n (pc' := 6) hE dJ7_fill_53178_5 rfl rfl rfl ?_
      refine dk_iload_n (pc' := 7) hE dJ7_fill_53178_6 rfl rfl rfl ?_
      refine dk_icmp_ge (tgt := 20) (pc' := 10) hE dJ7_fill_53178_7 (by decide) rfl (fun hc1 => ?_) (fun hc1 => ?_)
      · skip
        exact dk_vret (st := []) hE hR dJ7_fill_53178_20 ⟨rfl, (fun k_ j_ h_ => by rw [hF5 k_ j_ (fun w_ => h_ (w_))]), trivial⟩
      · skip
        refine dk_aload_n (pc' := 11) hE dJ7_fill_53178_10 rfl rfl rfl ?_
        refine dk_iload_n (pc' := 12) hE dJ7_fill_53178_11 rfl rfl rfl ?_
        refine dk_iload_n (pc' := 13) hE dJ7_fill_53178_12 rfl rfl rfl ?_
        refine pa_29 (pc' := 14) hE dJ7_fill_53178_13 hk (by omega) (by omega) rfl (fun σ2 eσ2 => ?_)
        obtain ⟨v3, hv3⟩ : ∃ z : Int, z = i + 1 := ⟨_, rfl⟩
        refine dk_iinc (pc' := 17) (ls' := [(4, k), (0, v), (0, v3), (0, 3)]) hE dJ7_fill_53178_14 rfl hv3.symm (by omega) rfl (by decide) rfl ?_
        refine dk_goto (tgt := 5) hE dJ7_fill_53178_17 (by decide) ?_
        exact ih5 v3 σ2 (by omega) (fun k_ j_ h_ => by rw [eσ2, dk_up_n (show ¬ (k_ = k ∧ j_ = i) from fun q_ => h_ (q_.1)), hF5 k_ j_ (fun w_ => h_ (w_))]) (by omega)
  exact lp5 _ 0 σ (Nat.lt_succ_self _) (fun k_ j_ h_ => rfl) (by omega)
set_option maxHeartbeats 4000000 in
set_option maxRecDepth 20000 in
theorem ct_J7_fill_53178_38 (l : Launch) (G : dkG) (hGd : dk_Gd G) (k v : Int) : dk_Ct l G dk_Ty yJ7_fill_53178 cJ7_fill_53178 4 (none) 1 190 190 (fun av σ => av = [(4, k), (0, v)] ∧ (dk_is 190 38 k)) (fun _ σ r_ σ' => r_ = none ∧ (∀ k_ j_ : Int, ¬ (k_ = k) → σ' k_ j_ = σ k_ j_) ∧ (True)) := by
  refine dk_enter hGd (by decide) (fun av σ hpre hok => ?_)
  obtain ⟨rfl, hk⟩ := hpre
  refine ⟨Nat.le_of_ble_eq_true rfl, fun E hE hR _ => ?_⟩
  have hi_v : dk_i32 v := dk_oki (hok _ (by simp))
  show dk_PJ E 0 [(4, k), (0, v), (9, 0), (9, 0)] [] 190 σ
  refine dk_iconst (pc' := 1) hE dJ7_fill_53178_0 (by decide) rfl ?_
  refine dk_istore_n (pc' := 2) (ls' := [(4, k), (0, v), (0, 0), (9, 0)]) hE dJ7_fill_53178_1 rfl rfl (by decide) rfl ?_
  refine dk_aload_n (pc' := 3) hE dJ7_fill_53178_2 rfl rfl rfl ?_
  refine dk_alen (pc' := 4) hE dJ7_fill_53178_3 hk rfl (w := 12) rfl (by decide) rfl ?_
  refine dk_istore_n (pc' := 5) (ls' := [(4, k), (0, v), (0, 0), (0, 12)]) hE dJ7_fill_53178_4 rfl rfl (by decide) rfl ?_
  have lp5 : ∀ (N_ : Nat) (i : Int) (σ5c : dkS), (2147483648 - i).toNat < N_ → ((∀ k_ j_ : Int, ¬ (k_ = k) → σ5c k_ j_ = σ k_ j_)) → (0 ≤ i) → dk_PJ E 5 [(4, k), (0, v), (0, i), (0, 12)] [] 190 σ5c := by
    intro N5
    induction N5 with
    | zero => intro i σ5c hm; exact absurd hm (Nat.not_lt_zero _)
    | succ N5 ih5 =>
      intro i σ5c hm5 hF5 hi
      refine dk_iload_n (pc' := 6) hE dJ7_fill_53178_5 rfl rfl rfl ?_
      refine dk_iload_n (pc' := 7) hE dJ7_fill_53178_6 rfl rfl rfl ?_
      refine dk_icmp_ge (tgt := 20) (pc' := 10) hE dJ7_fill_53178_7 (by decide) rfl (fun hc1 => ?_) (fun hc1 => ?_)
      · skip
        exact dk_vret (st := []) hE hR dJ7_fill_53178_20 ⟨rfl, (fun k_ j_ h_ => by rw [hF5 k_ j_ (fun w_ => h_ (w_))]), trivial⟩
      · skip
        refine dk_aload_n (pc' := 11) hE dJ7_fill_53178_10 rfl rfl rfl ?_
        refine dk_iload_n (pc' := 12) hE dJ7_fill_53178_11 rfl rfl rfl ?_
        refine dk_iload_n (pc' := 13) hE dJ7_fill_53178_12 rfl rfl rfl ?_
        refine pa_38 (pc' := 14) hE dJ7_fill_53178_13 hk (by omega) trivial rfl (fun σ2 eσ2 => ?_)
        obtain ⟨v3, hv3⟩ : ∃ z : Int, z = i + 1 := ⟨_, rfl⟩
        refine dk_iinc (pc' := 17) (ls' := [(4, k), (0, v), (0, v3), (0, 12)]) hE dJ7_fill_53178_14 rfl hv3.symm (by omega) rfl (by decide) rfl ?_
        refine dk_goto (tgt := 5) hE dJ7_fill_53178_17 (by decide) ?_
        exact ih5 v3 σ2 (by omega) (fun k_ j_ h_ => by rw [eσ2, dk_up_n (show ¬ (k_ = k ∧ j_ = i) from fun q_ => h_ (q_.1)), hF5 k_ j_ (fun w_ => h_ (w_))]) (by omega)
  exact lp5 _ 0 σ (Nat.lt_succ_self _) (fun k_ j_ h_ => rfl) (by omega)
set_option maxHeartbeats 4000000 in
set_option maxRecDepth 20000 in
theorem ct_J7_fill_53178_40 (l : Launch) (G : dkG) (hGd : dk_Gd G) (k v : Int) : dk_Ct l G dk_Ty yJ7_fill_53178 cJ7_fill_53178 4 (none) 1 190 190 (fun av σ => av = [(4, k), (0, v)] ∧ (dk_is 190 40 k)) (fun _ σ r_ σ' => r_ = none ∧ (∀ k_ j_ : Int, ¬ (k_ = k) → σ' k_ j_ = σ k_ j_) ∧ (True)) := by
  refine dk_enter hGd (by decide) (fun av σ hpre hok => ?_)
  obtain ⟨rfl, hk⟩ := hpre
  refine ⟨Nat.le_of_ble_eq_true rfl, fun E hE hR _ => ?_⟩
  have hi_v : dk_i32 v := dk_oki (hok _ (by simp))
  show dk_PJ E 0 [(4, k), (0, v), (9, 0), (9, 0)] [] 190 σ
  refine dk_iconst (pc' := 1) hE dJ7_fill_53178_0 (by decide) rfl ?_
  refine dk_istore_n (pc' := 2) (ls' := [(4, k), (0, v), (0, 0), (9, 0)]) hE dJ7_fill_53178_1 rfl rfl (by decide) rfl ?_
  refine dk_aload_n (pc' := 3) hE dJ7_fill_53178_2 rfl rfl rfl ?_
  refine dk_alen (pc' := 4) hE dJ7_fill_53178_3 hk rfl (w := 12) rfl (by decide) rfl ?_
  refine dk_istore_n (pc' := 5) (ls' := [(4, k), (0, v), (0, 0), (0, 12)]) hE dJ7_fill_53178_4 rfl rfl (by decide) rfl ?_
  have lp5 : ∀ (N_ : Nat) (i : Int) (σ5c : dkS), (2147483648 - i).toNat < N_ → ((∀ k_ j_ : Int, ¬ (k_ = k) → σ5c k_ j_ = σ k_ j_)) → (0 ≤ i) → dk_PJ E 5 [(4, k), (0, v), (0, i), (0, 12)] [] 190 σ5c := by
    intro N5
    induction N5 with
    | zero => intro i σ5c hm; exact absurd hm (Nat.not_lt_zero _)
    | succ N5 ih5 =>
      intro i σ5c hm5 hF5 hi
      refine dk_iload_n (pc' := 6) hE dJ7_fill_53178_5 rfl rfl rfl ?_
      refine dk_iload_n (pc' := 7) hE dJ7_fill_53178_6 rfl rfl rfl ?_
      refine dk_icmp_ge (tgt := 20) (pc' := 10) hE dJ7_fill_53178_7 (by decide) rfl (fun hc1 => ?_) (fun hc1 => ?_)
      · skip
        exact dk_vret (st := []) hE hR dJ7_fill_53178_20 ⟨rfl, (fun k_ j_ h_ => by rw [hF5 k_ j_ (fun w_ => h_ (w_))]), trivial⟩
      · skip
        refine dk_aload_n (pc' := 11) hE dJ7_fill_53178_10 rfl rfl rfl ?_
        refine dk_iload_n (pc' := 12) hE dJ7_fill_53178_11 rfl rfl rfl ?_
        refine dk_iload_n (pc' := 13) hE dJ7_fill_53178_12 rfl rfl rfl ?_
        refine pa_40 (pc' := 14) hE dJ7_fill_53178_13 hk (by omega) trivial rfl (fun σ2 eσ2 => ?_)
        obtain ⟨v3, hv3⟩ : ∃ z : Int, z = i + 1 := ⟨_, rfl⟩
        refine dk_iinc (pc' := 17) (ls' := [(4, k), (0, v), (0, v3), (0, 12)]) hE dJ7_fill_53178_14 rfl hv3.symm (by omega) rfl (by decide) rfl ?_
        refine dk_goto (tgt := 5) hE dJ7_fill_53178_17 (by decide) ?_
        exact ih5 v3 σ2 (by omega) (fun k_ j_ h_ => by rw [eσ2, dk_up_n (show ¬ (k_ = k ∧ j_ = i) from fun q_ => h_ (q_.1)), hF5 k_ j_ (fun w_ => h_ (w_))]) (by omega)
  exact lp5 _ 0 σ (Nat.lt_succ_self _) (fun k_ j_ h_ => rfl) (by omega)
set_option maxHeartbeats 4000000 in
set_option maxRecDepth 20000 in
theorem ct_X3_clear (l : Launch) (G : dkG) (hGd : dk_Gd G) (r : Int) : dk_Ct l G dk_Ty yX3_clear cX3_clear 1 (none) 2 190 190 (fun av σ => av = [(4, r)] ∧ (dk_ru r)) (fun _ σ r_ σ' => r_ = none ∧ (∀ k_ j_ : Int, ¬ ((k_ = r ∧ j_ = 3) ∨ k_ = r + 2 ∨ k_ = r + 3) → σ' k_ j_ = σ k_ j_) ∧ (True)) := by
  refine dk_enter hGd (by decide) (fun av σ hpre hok => ?_)
  obtain ⟨rfl, hr⟩ := hpre
  refine ⟨Nat.le_of_ble_eq_true rfl, fun E hE hR _ => ?_⟩
  show dk_PJ E 0 [(4, r)] [] 190 σ
  refine dk_aload_n (pc' := 1) hE dX3_clear_0 rfl rfl rfl ?_
  refine dk_iconst (pc' := 2) hE dX3_clear_1 (by decide) rfl ?_
  refine pf_3_3 (pc' := 5) hE fl_X3_21 dX3_clear_2 (ru_is hr) (by omega) rfl (fun σ1 eσ1 => ?_)
  refine dk_aload_n (pc' := 6) hE dX3_clear_5 rfl rfl rfl ?_
  refine gf_3_1 (pc' := 9) (w := (r + 2)) hE fl_X3_15 dX3_clear_6 (ru_is hr) rfl rfl ?_
  refine dk_iconst (pc' := 10) hE dX3_clear_9 (by decide) rfl ?_
  refine dk_cS (pc' := 13) (as := [(4, (r + 2)), (0, (-1))]) hE lk_X3_25 (ct_J7_fill_53178_28 l G hGd (r + 2) (-1)) dX3_clear_10 rfl rfl (by decide) (Nat.le_of_ble_eq_true rfl) ⟨rfl, (ru_2 (by omega)), (by omega)⟩ rfl (fun r3 σ2 hr3 _ => ?_)
  obtain ⟨rfl, hfσ2, hpr3⟩ := hr3
  refine dk_aload_n (pc' := 14) hE dX3_clear_13 rfl rfl rfl ?_
  refine gf_3_2 (pc' := 17) (w := (r + 3)) hE fl_X3_18 dX3_clear_14 (ru_is hr) rfl rfl ?_
  refine dk_iconst (pc' := 18) hE dX3_clear_17 (by decide) rfl ?_
  refine dk_cS (pc' := 21) (as := [(4, (r + 3)), (0, (-1))]) hE lk_X3_25 (ct_J7_fill_53178_29 l G hGd (r + 3) (-1)) dX3_clear_18 rfl rfl (by decide) (Nat.le_of_ble_eq_true rfl) ⟨rfl, (ru_3 (by omega)), (by omega)⟩ rfl (fun r5 σ4 hr5 _ => ?_)
  obtain ⟨rfl, hfσ4, hpr5⟩ := hr5
  exact dk_vret (st := []) hE hR dX3_clear_21 ⟨rfl, (fun k_ j_ h_ => by rw [hfσ4 k_ j_ (fun w_ => h_ (Or.inr (Or.inr (w_)))), hfσ2 k_ j_ (fun w_ => h_ (Or.inr (Or.inl (w_)))), eσ1, dk_up_n (show ¬ (k_ = r ∧ j_ = 3) from fun q_ => h_ (Or.inl (q_)))]), trivial⟩
set_option maxHeartbeats 4000000 in
set_option maxRecDepth 20000 in
theorem ct_X3_tells (l : Launch) (G : dkG) (hGd : dk_Gd G) (r a : Int) : dk_Ct l G dk_Ty yX3_tells cX3_tells 2 (some .boolean) 1 190 190 (fun av σ => av = [(4, r), (0, a)] ∧ (dk_ru r) ∧ (0 ≤ a ∧ a < 3)) (fun _ σ r_ σ' => ∃ z : Int, r_ = some (0, z) ∧ (∀ k_ j_ : Int, ¬ (False) → σ' k_ j_ = σ k_ j_) ∧ (0 ≤ z ∧ z ≤ 1)) := by
  refine dk_enter hGd (by decide) (fun av σ hpre hok => ?_)
  obtain ⟨rfl, hr, ha⟩ := hpre
  refine ⟨Nat.le_of_ble_eq_true rfl, fun E hE hR _ => ?_⟩
  have hi_a : dk_i32 a := dk_oki (hok _ (by simp))
  show dk_PJ E 0 [(4, r), (0, a)] [] 190 σ
  refine dk_aload_n (pc' := 1) hE dX3_tells_0 rfl rfl rfl ?_
  refine gf_3_1 (pc' := 4) (w := (r + 2)) hE fl_X3_15 dX3_tells_1 (ru_is hr) rfl rfl ?_
  refine dk_iload_n (pc' := 5) hE dX3_tells_4 rfl rfl rfl ?_
  refine ga_28 (pc' := 6) hE dX3_tells_5 (ru_2 (by omega)) (by omega) rfl (fun v1 hv1 htv1 hbv1 => ?_)
  refine dk_iconst (pc' := 7) hE dX3_tells_6 (by decide) rfl ?_
  refine dk_icmp_eq (tgt := 14) (pc' := 10) hE dX3_tells_7 (by decide) rfl (fun hc2 => ?_) (fun hc2 => ?_)
  · skip
    refine dk_iconst (pc' := 15) hE dX3_tells_14 (by decide) rfl ?_
    exact dk_zret (st := []) hE hR dX3_tells_15 (by omega) ⟨_, rfl, (fun k_ j_ h_ => rfl), by omega⟩
  · skip
    refine dk_iconst (pc' := 11) hE dX3_tells_10 (by decide) rfl ?_
    refine dk_goto (tgt := 15) hE dX3_tells_11 (by decide) ?_
    exact dk_zret (st := []) hE hR dX3_tells_15 (by omega) ⟨_, rfl, (fun k_ j_ h_ => rfl), by omega⟩
set_option maxHeartbeats 4000000 in
set_option maxRecDepth 20000 in
theorem ct_X3_open (l : Launch) (G : dkG) (hGd : dk_Gd G) (r a : Int) : dk_Ct l G dk_Ty yX3_open cX3_open 2 (none) 1 190 190 (fun av σ => av = [(4, r), (0, a)] ∧ (dk_ru r) ∧ (0 ≤ a ∧ a < 3)) (fun _ σ r_ σ' => r_ = none ∧ (∀ k_ j_ : Int, ¬ (k_ = r + 2) → σ' k_ j_ = σ k_ j_) ∧ (True)) := by
  refine dk_enter hGd (by decide) (fun av σ hpre hok => ?_)
  obtain ⟨rfl, hr, ha⟩ := hpre
  refine ⟨Nat.le_of_ble_eq_true rfl, fun E hE hR _ => ?_⟩
  have hi_a : dk_i32 a := dk_oki (hok _ (by simp))
  show dk_PJ E 0 [(4, r), (0, a)] [] 190 σ
  refine dk_aload_n (pc' := 1) hE dX3_open_0 rfl rfl rfl ?_
  refine gf_3_1 (pc' := 4) (w := (r + 2)) hE fl_X3_15 dX3_open_1 (ru_is hr) rfl rfl ?_
  refine dk_iload_n (pc' := 5) hE dX3_open_4 rfl rfl rfl ?_
  refine dk_aload_n (pc' := 6) hE dX3_open_5 rfl rfl rfl ?_
  refine gf_3_3 (pc' := 9) hE fl_X3_21 dX3_open_6 (ru_is hr) rfl (fun v1 hv1 htv1 hbv1 => ?_)
  refine pa_28 (pc' := 10) hE dX3_open_9 (ru_2 (by omega)) (by omega) (by omega) rfl (fun σ2 eσ2 => ?_)
  exact dk_vret (st := []) hE hR dX3_open_10 ⟨rfl, (fun k_ j_ h_ => by rw [eσ2, dk_up_n (show ¬ (k_ = (r + 2) ∧ j_ = a) from fun q_ => h_ (q_.1))]), trivial⟩
set_option maxHeartbeats 4000000 in
set_option maxRecDepth 20000 in
theorem ct_X3_close (l : Launch) (G : dkG) (hGd : dk_Gd G) (r a : Int) : dk_Ct l G dk_Ty yX3_close cX3_close 2 (none) 1 190 190 (fun av σ => av = [(4, r), (0, a)] ∧ (dk_ru r) ∧ (0 ≤ a ∧ a < 3)) (fun _ σ r_ σ' => r_ = none ∧ (∀ k_ j_ : Int, ¬ (k_ = r + 3) → σ' k_ j_ = σ k_ j_) ∧ (True)) := by
  refine dk_enter hGd (by decide) (fun av σ hpre hok => ?_)
  obtain ⟨rfl, hr, ha⟩ := hpre
  refine ⟨Nat.le_of_ble_eq_true rfl, fun E hE hR _ => ?_⟩
  have hi_a : dk_i32 a := dk_oki (hok _ (by simp))
  show dk_PJ E 0 [(4, r), (0, a)] [] 190 σ
  refine dk_aload_n (pc' := 1) hE dX3_close_0 rfl rfl rfl ?_
  refine gf_3_2 (pc' := 4) (w := (r + 3)) hE fl_X3_18 dX3_close_1 (ru_is hr) rfl rfl ?_
  refine dk_iload_n (pc' := 5) hE dX3_close_4 rfl rfl rfl ?_
  refine dk_aload_n (pc' := 6) hE dX3_close_5 rfl rfl rfl ?_
  refine gf_3_3 (pc' := 9) hE fl_X3_21 dX3_close_6 (ru_is hr) rfl (fun v1 hv1 htv1 hbv1 => ?_)
  refine pa_29 (pc' := 10) hE dX3_close_9 (ru_3 (by omega)) (by omega) (by omega) rfl (fun σ2 eσ2 => ?_)
  exact dk_vret (st := []) hE hR dX3_close_10 ⟨rfl, (fun k_ j_ h_ => by rw [eσ2, dk_up_n (show ¬ (k_ = (r + 3) ∧ j_ = a) from fun q_ => h_ (q_.1))]), trivial⟩
set_option maxHeartbeats 4000000 in
set_option maxRecDepth 20000 in
theorem ct_X3_add (l : Launch) (G : dkG) (hGd : dk_Gd G) (r c : Int) : dk_Ct l G dk_Ty yX3_add cX3_add 2 (none) 1 190 190 (fun av σ => av = [(4, r), (0, c)] ∧ (dk_ru r) ∧ ((0 ≤ c ∧ c ≤ 10009) ∨ (20000 ≤ c ∧ c ≤ 20127))) (fun _ σ r_ σ' => r_ = none ∧ (∀ k_ j_ : Int, ¬ ((k_ = r ∧ j_ = 3) ∨ k_ = r + 1) → σ' k_ j_ = σ k_ j_) ∧ (True)) := by
  refine dk_enter hGd (by decide) (fun av σ hpre hok => ?_)
  obtain ⟨rfl, hr, hc⟩ := hpre
  refine ⟨Nat.le_of_ble_eq_true rfl, fun E hE hR _ => ?_⟩
  have hi_c : dk_i32 c := dk_oki (hok _ (by simp))
  show dk_PJ E 0 [(4, r), (0, c)] [] 190 σ
  refine dk_aload_n (pc' := 1) hE dX3_add_0 rfl rfl rfl ?_
  refine gf_3_3 (pc' := 4) hE fl_X3_21 dX3_add_1 (ru_is hr) rfl (fun v1 hv1 htv1 hbv1 => ?_)
  refine dk_aload_n (pc' := 5) hE dX3_add_4 rfl rfl rfl ?_
  refine gf_3_0 (pc' := 8) (w := (r + 1)) hE fl_X3_11 dX3_add_5 (ru_is hr) rfl rfl ?_
  refine dk_alen (pc' := 9) hE dX3_add_8 (ru_1 (by omega)) rfl (w := 320) rfl (by decide) rfl ?_
  refine dk_icmp_ge (tgt := 32) (pc' := 12) hE dX3_add_9 (by decide) rfl (fun hc2 => ?_) (fun hc2 => ?_)
  · skip
    exact dk_vret (st := []) hE hR dX3_add_32 ⟨rfl, (fun k_ j_ h_ => rfl), trivial⟩
  · skip
    refine dk_aload_n (pc' := 13) hE dX3_add_12 rfl rfl rfl ?_
    refine gf_3_0 (pc' := 16) (w := (r + 1)) hE fl_X3_11 dX3_add_13 (ru_is hr) rfl rfl ?_
    refine dk_aload_n (pc' := 17) hE dX3_add_16 rfl rfl rfl ?_
    refine gf_3_3 (pc' := 20) hE fl_X3_21 dX3_add_17 (ru_is hr) rfl (fun v3 hv3 htv3 hbv3 => ?_)
    have hq3 : v1 = v3 := (show v3 = v1 by rw [hv3, hv1]).symm
    subst hq3
    clear htv3 hbv3
    refine dk_iload_n (pc' := 21) hE dX3_add_20 rfl rfl rfl ?_
    refine pa_27 (pc' := 22) hE dX3_add_21 (ru_1 (by omega)) (by omega) (by omega) rfl (fun σ4 eσ4 => ?_)
    refine dk_aload_n (pc' := 23) hE dX3_add_22 rfl rfl rfl ?_
    refine dk_dup (pc' := 24) hE dX3_add_23 (show (4 : Nat) ≠ 3 by decide) rfl ?_
    refine gf_3_3 (pc' := 27) hE fl_X3_21 dX3_add_24 (ru_is hr) rfl (fun v5 hv5 htv5 hbv5 => ?_)
    have hq5 : v1 = v5 := (show v5 = v1 by rw [hv5, eσ4, dk_up_n (show ¬ (r = (r + 1) ∧ 3 = v1) by omega), hv3]).symm
    subst hq5
    clear htv5 hbv5
    refine dk_iconst (pc' := 28) hE dX3_add_27 (by decide) rfl ?_
    obtain ⟨v6, hv6⟩ : ∃ z : Int, z = v1 + 1 := ⟨_, rfl⟩
    refine dk_iadd (pc' := 29) hE dX3_add_28 hv6.symm (by omega) rfl ?_
    refine pf_3_3 (pc' := 32) hE fl_X3_21 dX3_add_29 (ru_is hr) (by omega) rfl (fun σ7 eσ7 => ?_)
    exact dk_vret (st := []) hE hR dX3_add_32 ⟨rfl, (fun k_ j_ h_ => by rw [eσ7, dk_up_n (show ¬ (k_ = r ∧ j_ = 3) from fun q_ => h_ (Or.inl (q_))), eσ4, dk_up_n (show ¬ (k_ = (r + 1) ∧ j_ = v1) from fun q_ => h_ (Or.inr (q_.1)))]), trivial⟩
set_option maxHeartbeats 4000000 in
set_option maxRecDepth 20000 in
theorem ct_X3_joined (l : Launch) (G : dkG) (hGd : dk_Gd G) (o a b : Int) : dk_Ct l G dk_Ty yX3_joined cX3_joined 3 (some .int) 1 190 190 (fun av σ => av = [(0, o), (0, a), (0, b)]) (fun _ σ r_ σ' => ∃ z : Int, r_ = some (0, z) ∧ (∀ k_ j_ : Int, ¬ (False) → σ' k_ j_ = σ k_ j_) ∧ (True)) := by
  refine dk_enter hGd (by decide) (fun av σ hpre hok => ?_)
  subst hpre
  refine ⟨Nat.le_of_ble_eq_true rfl, fun E hE hR _ => ?_⟩
  have hi_o : dk_i32 o := dk_oki (hok _ (by simp))
  have hi_a : dk_i32 a := dk_oki (hok _ (by simp))
  have hi_b : dk_i32 b := dk_oki (hok _ (by simp))
  show dk_PJ E 0 [(0, o), (0, a), (0, b)] [] 190 σ
  refine dk_iload_n (pc' := 1) hE dX3_joined_0 rfl rfl rfl ?_
  by_cases hc1_0 : o = 14
  · refine dk_lookup (tgt := 121) hE dX3_joined_1 (by decide) (off := 120) (by rw [hc1_0]; decide) (by decide) ?_
    refine dk_iload_n (pc' := 122) hE dX3_joined_121 rfl rfl rfl ?_
    refine dk_if_eq (tgt := 133) (pc' := 125) hE dX3_joined_122 (by decide) rfl (fun hc2 => ?_) (fun hc2 => ?_)
    · skip
      refine dk_iconst (pc' := 134) hE dX3_joined_133 (by decide) rfl ?_
      exact dk_iret (st := []) hE hR dX3_joined_134 ⟨_, rfl, (fun k_ j_ h_ => rfl), trivial⟩
    · skip
      refine dk_iload_n (pc' := 126) hE dX3_joined_125 rfl rfl rfl ?_
      refine dk_if_eq (tgt := 133) (pc' := 129) hE dX3_joined_126 (by decide) rfl (fun hc3 => ?_) (fun hc3 => ?_)
      · skip
        refine dk_iconst (pc' := 134) hE dX3_joined_133 (by decide) rfl ?_
        exact dk_iret (st := []) hE hR dX3_joined_134 ⟨_, rfl, (fun k_ j_ h_ => rfl), trivial⟩
      · skip
        refine dk_iconst (pc' := 130) hE dX3_joined_129 (by decide) rfl ?_
        refine dk_goto (tgt := 134) hE dX3_joined_130 (by decide) ?_
        exact dk_iret (st := []) hE hR dX3_joined_134 ⟨_, rfl, (fun k_ j_ h_ => rfl), trivial⟩
  by_cases hc1_1 : o = 15
  · refine dk_lookup (tgt := 135) hE dX3_joined_1 (by decide) (off := 134) (by rw [hc1_1]; decide) (by decide) ?_
    refine dk_iload_n (pc' := 136) hE dX3_joined_135 rfl rfl rfl ?_
    refine dk_if_ne (tgt := 143) (pc' := 139) hE dX3_joined_136 (by decide) rfl (fun hc4 => ?_) (fun hc4 => ?_)
    · skip
      refine dk_iconst (pc' := 144) hE dX3_joined_143 (by decide) rfl ?_
      refine dk_goto (tgt := 148) hE dX3_joined_144 (by decide) ?_
      exact dk_iret (st := []) hE hR dX3_joined_148 ⟨_, rfl, (fun k_ j_ h_ => rfl), trivial⟩
    · skip
      refine dk_iload_n (pc' := 140) hE dX3_joined_139 rfl rfl rfl ?_
      refine dk_if_eq (tgt := 147) (pc' := 143) hE dX3_joined_140 (by decide) rfl (fun hc5 => ?_) (fun hc5 => ?_)
      · skip
        refine dk_iconst (pc' := 148) hE dX3_joined_147 (by decide) rfl ?_
        exact dk_iret (st := []) hE hR dX3_joined_148 ⟨_, rfl, (fun k_ j_ h_ => rfl), trivial⟩
      · skip
        refine dk_iconst (pc' := 144) hE dX3_joined_143 (by decide) rfl ?_
        refine dk_goto (tgt := 148) hE dX3_joined_144 (by decide) ?_
        exact dk_iret (st := []) hE hR dX3_joined_148 ⟨_, rfl, (fun k_ j_ h_ => rfl), trivial⟩
  by_cases hc1_2 : o = 42
  · refine dk_lookup (tgt := 76) hE dX3_joined_1 (by decide) (off := 75) (by rw [hc1_2]; decide) (by decide) ?_
    refine dk_iload_n (pc' := 77) hE dX3_joined_76 rfl rfl rfl ?_
    refine dk_iload_n (pc' := 78) hE dX3_joined_77 rfl rfl rfl ?_
    refine dk_imulW (pc' := 79) hE dX3_joined_78 rfl (fun v6 hv6 _ => ?_)
    exact dk_iret (st := []) hE hR dX3_joined_79 ⟨_, rfl, (fun k_ j_ h_ => rfl), trivial⟩
  by_cases hc1_3 : o = 43
  · refine dk_lookup (tgt := 80) hE dX3_joined_1 (by decide) (off := 79) (by rw [hc1_3]; decide) (by decide) ?_
    refine dk_iload_n (pc' := 81) hE dX3_joined_80 rfl rfl rfl ?_
    refine dk_iload_n (pc' := 82) hE dX3_joined_81 rfl rfl rfl ?_
    refine dk_iaddW (pc' := 83) hE dX3_joined_82 rfl (fun v7 hv7 _ => ?_)
    exact dk_iret (st := []) hE hR dX3_joined_83 ⟨_, rfl, (fun k_ j_ h_ => rfl), trivial⟩
  by_cases hc1_4 : o = 45
  · refine dk_lookup (tgt := 84) hE dX3_joined_1 (by decide) (off := 83) (by rw [hc1_4]; decide) (by decide) ?_
    refine dk_iload_n (pc' := 85) hE dX3_joined_84 rfl rfl rfl ?_
    refine dk_iload_n (pc' := 86) hE dX3_joined_85 rfl rfl rfl ?_
    refine dk_isubW (pc' := 87) hE dX3_joined_86 rfl (fun v8 hv8 _ => ?_)
    exact dk_iret (st := []) hE hR dX3_joined_87 ⟨_, rfl, (fun k_ j_ h_ => rfl), trivial⟩
  by_cases hc1_5 : o = 60
  · refine dk_lookup (tgt := 88) hE dX3_joined_1 (by decide) (off := 87) (by rw [hc1_5]; decide) (by decide) ?_
    refine dk_iload_n (pc' := 89) hE dX3_joined_88 rfl rfl rfl ?_
    refine dk_iload_n (pc' := 90) hE dX3_joined_89 rfl rfl rfl ?_
    refine dk_icmp_ge (tgt := 97) (pc' := 93) hE dX3_joined_90 (by decide) rfl (fun hc9 => ?_) (fun hc9 => ?_)
    · skip
      refine dk_iconst (pc' := 98) hE dX3_joined_97 (by decide) rfl ?_
      exact dk_iret (st := []) hE hR dX3_joined_98 ⟨_, rfl, (fun k_ j_ h_ => rfl), trivial⟩
    · skip
      refine dk_iconst (pc' := 94) hE dX3_joined_93 (by decide) rfl ?_
      refine dk_goto (tgt := 98) hE dX3_joined_94 (by decide) ?_
      exact dk_iret (st := []) hE hR dX3_joined_98 ⟨_, rfl, (fun k_ j_ h_ => rfl), trivial⟩
  by_cases hc1_6 : o = 61
  · refine dk_lookup (tgt := 110) hE dX3_joined_1 (by decide) (off := 109) (by rw [hc1_6]; decide) (by decide) ?_
    refine dk_iload_n (pc' := 111) hE dX3_joined_110 rfl rfl rfl ?_
    refine dk_iload_n (pc' := 112) hE dX3_joined_111 rfl rfl rfl ?_
    refine dk_icmp_ne (tgt := 119) (pc' := 115) hE dX3_joined_112 (by decide) rfl (fun hc10 => ?_) (fun hc10 => ?_)
    · skip
      refine dk_iconst (pc' := 120) hE dX3_joined_119 (by decide) rfl ?_
      exact dk_iret (st := []) hE hR dX3_joined_120 ⟨_, rfl, (fun k_ j_ h_ => rfl), trivial⟩
    · skip
      refine dk_iconst (pc' := 116) hE dX3_joined_115 (by decide) rfl ?_
      refine dk_goto (tgt := 120) hE dX3_joined_116 (by decide) ?_
      exact dk_iret (st := []) hE hR dX3_joined_120 ⟨_, rfl, (fun k_ j_ h_ => rfl), trivial⟩
  by_cases hc1_7 : o = 62
  · refine dk_lookup (tgt := 99) hE dX3_joined_1 (by decide) (off := 98) (by rw [hc1_7]; decide) (by decide) ?_
    refine dk_iload_n (pc' := 100) hE dX3_joined_99 rfl rfl rfl ?_
    refine dk_iload_n (pc' := 101) hE dX3_joined_100 rfl rfl rfl ?_
    refine dk_icmp_le (tgt := 108) (pc' := 104) hE dX3_joined_101 (by decide) rfl (fun hc11 => ?_) (fun hc11 => ?_)
    · skip
      refine dk_iconst (pc' := 109) hE dX3_joined_108 (by decide) rfl ?_
      exact dk_iret (st := []) hE hR dX3_joined_109 ⟨_, rfl, (fun k_ j_ h_ => rfl), trivial⟩
    · skip
      refine dk_iconst (pc' := 105) hE dX3_joined_104 (by decide) rfl ?_
      refine dk_goto (tgt := 109) hE dX3_joined_105 (by decide) ?_
      exact dk_iret (st := []) hE hR dX3_joined_109 ⟨_, rfl, (fun k_ j_ h_ => rfl), trivial⟩
  refine dk_lookup (tgt := 149) hE dX3_joined_1 (by decide) (off := 148) (by simp [dk_sw, hc1_0, hc1_1, hc1_2, hc1_3, hc1_4, hc1_5, hc1_6, hc1_7]) (by decide) ?_
  refine dk_iconst (pc' := 150) hE dX3_joined_149 (by decide) rfl ?_
  exact dk_iret (st := []) hE hR dX3_joined_150 ⟨_, rfl, (fun k_ j_ h_ => rfl), trivial⟩
set_option maxHeartbeats 4000000 in
set_option maxRecDepth 20000 in
theorem ct_X3_value (l : Launch) (G : dkG) (hGd : dk_Gd G) (r a : Int) : dk_Ct l G dk_Ty yX3_value cX3_value 7 (some .int) 2 190 190 (fun av σ => av = [(4, r), (0, a), (4, 72), (4, 73)] ∧ (dk_ru r) ∧ (0 ≤ a ∧ a < 3)) (fun _ σ r_ σ' => ∃ z : Int, r_ = some (0, z) ∧ (∀ k_ j_ : Int, ¬ (k_ = 73) → σ' k_ j_ = σ k_ j_) ∧ (True)) := by
  refine dk_enter hGd (by decide) (fun av σ hpre hok => ?_)
  obtain ⟨rfl, hr, ha⟩ := hpre
  refine ⟨Nat.le_of_ble_eq_true rfl, fun E hE hR _ => ?_⟩
  have hi_a : dk_i32 a := dk_oki (hok _ (by simp))
  show dk_PJ E 0 [(4, r), (0, a), (4, 72), (4, 73), (9, 0), (9, 0), (9, 0)] [] 190 σ
  refine dk_iconst (pc' := 1) hE dX3_value_0 (by decide) rfl ?_
  refine dk_istore (pc' := 3) (ls' := [(4, r), (0, a), (4, 72), (4, 73), (0, 0), (9, 0), (9, 0)]) hE dX3_value_1 rfl (by decide) rfl ?_
  refine dk_aload_n (pc' := 4) hE dX3_value_3 rfl rfl rfl ?_
  refine gf_3_1 (pc' := 7) (w := (r + 2)) hE fl_X3_15 dX3_value_4 (ru_is hr) rfl rfl ?_
  refine dk_iload_n (pc' := 8) hE dX3_value_7 rfl rfl rfl ?_
  refine ga_28 (pc' := 9) hE dX3_value_8 (ru_2 (by omega)) (by omega) rfl (fun v1 hv1 htv1 hbv1 => ?_)
  refine dk_istore (pc' := 11) (ls' := [(4, r), (0, a), (4, 72), (4, 73), (0, 0), (0, v1), (9, 0)]) hE dX3_value_9 rfl (by decide) rfl ?_
  have lp11 : ∀ (N_ : Nat) (t i : Int) (σ11c : dkS), (2147483648 - i).toNat < N_ → ((∀ k_ j_ : Int, ¬ (k_ = 73) → σ11c k_ j_ = σ k_ j_)) → (-1 ≤ i ∧ i ≤ 321) → (0 ≤ t ∧ t ≤ 60) → dk_PJ E 11 [(4, r), (0, a), (4, 72), (4, 73), (0, t), (0, i), (9, 0)] [] 190 σ11c := by
    intro N11
    induction N11 with
    | zero => intro t i σ11c hm; exact absurd hm (Nat.not_lt_zero _)
    | succ N11 ih11 =>
      intro t i σ11c hm11 hF11 hi ht
      refine dk_iload (pc' := 13) hE dX3_value_11 rfl rfl ?_
      refine dk_if_lt (tgt := 161) (pc' := 16) hE dX3_value_13 (by decide) rfl (fun hc2 => ?_) (fun hc2 => ?_)
      · skip
        refine dk_iload (pc' := 163) hE dX3_value_161 rfl rfl ?_
        refine dk_if_le (tgt := 175) (pc' := 166) hE dX3_value_163 (by decide) rfl (fun hc3 => ?_) (fun hc3 => ?_)
        · skip
          refine dk_iconst (pc' := 176) hE dX3_value_175 (by decide) rfl ?_
          exact dk_iret (st := []) hE hR dX3_value_176 ⟨_, rfl, (fun k_ j_ h_ => by rw [hF11 k_ j_ (fun w_ => h_ (w_))]), trivial⟩
        · skip
          refine dk_aload_n (pc' := 167) hE dX3_value_166 rfl rfl rfl ?_
          refine dk_iload (pc' := 169) hE dX3_value_167 rfl rfl ?_
          refine dk_iconst (pc' := 170) hE dX3_value_169 (by decide) rfl ?_
          obtain ⟨v4, hv4⟩ : ∃ z : Int, z = t - 1 := ⟨_, rfl⟩
          refine dk_isub (pc' := 171) hE dX3_value_170 hv4.symm (by omega) rfl ?_
          refine ga_46 (pc' := 172) hE dX3_value_171 is_73 (by omega) rfl (fun v5 hv5 htv5 hbv5 => ?_)
          refine dk_goto (tgt := 176) hE dX3_value_172 (by decide) ?_
          exact dk_iret (st := []) hE hR dX3_value_176 ⟨_, rfl, (fun k_ j_ h_ => by rw [hF11 k_ j_ (fun w_ => h_ (w_))]), trivial⟩
      · skip
        refine dk_iload (pc' := 18) hE dX3_value_16 rfl rfl ?_
        refine dk_aload_n (pc' := 19) hE dX3_value_18 rfl rfl rfl ?_
        refine gf_3_2 (pc' := 22) (w := (r + 3)) hE fl_X3_18 dX3_value_19 (ru_is hr) rfl rfl ?_
        refine dk_iload_n (pc' := 23) hE dX3_value_22 rfl rfl rfl ?_
        refine ga_29 (pc' := 24) hE dX3_value_23 (ru_3 (by omega)) (by omega) rfl (fun v6 hv6 htv6 hbv6 => ?_)
        refine dk_icmp_ge (tgt := 161) (pc' := 27) hE dX3_value_24 (by decide) rfl (fun hc7 => ?_) (fun hc7 => ?_)
        · skip
          refine dk_iload (pc' := 163) hE dX3_value_161 rfl rfl ?_
          refine dk_if_le (tgt := 175) (pc' := 166) hE dX3_value_163 (by decide) rfl (fun hc8 => ?_) (fun hc8 => ?_)
          · skip
            refine dk_iconst (pc' := 176) hE dX3_value_175 (by decide) rfl ?_
            exact dk_iret (st := []) hE hR dX3_value_176 ⟨_, rfl, (fun k_ j_ h_ => by rw [hF11 k_ j_ (fun w_ => h_ (w_))]), trivial⟩
          · skip
            refine dk_aload_n (pc' := 167) hE dX3_value_166 rfl rfl rfl ?_
            refine dk_iload (pc' := 169) hE dX3_value_167 rfl rfl ?_
            refine dk_iconst (pc' := 170) hE dX3_value_169 (by decide) rfl ?_
            obtain ⟨v9, hv9⟩ : ∃ z : Int, z = t - 1 := ⟨_, rfl⟩
            refine dk_isub (pc' := 171) hE dX3_value_170 hv9.symm (by omega) rfl ?_
            refine ga_46 (pc' := 172) hE dX3_value_171 is_73 (by omega) rfl (fun v10 hv10 htv10 hbv10 => ?_)
            refine dk_goto (tgt := 176) hE dX3_value_172 (by decide) ?_
            exact dk_iret (st := []) hE hR dX3_value_176 ⟨_, rfl, (fun k_ j_ h_ => by rw [hF11 k_ j_ (fun w_ => h_ (w_))]), trivial⟩
        · skip
          refine dk_aload_n (pc' := 28) hE dX3_value_27 rfl rfl rfl ?_
          refine gf_3_0 (pc' := 31) (w := (r + 1)) hE fl_X3_11 dX3_value_28 (ru_is hr) rfl rfl ?_
          refine dk_iload (pc' := 33) hE dX3_value_31 rfl rfl ?_
          refine ga_27 (pc' := 34) hE dX3_value_33 (ru_1 (by omega)) (by omega) rfl (fun v11 hv11 htv11 hbv11 => ?_)
          refine dk_istore (pc' := 36) (ls' := [(4, r), (0, a), (4, 72), (4, 73), (0, t), (0, i), (0, v11)]) hE dX3_value_34 rfl (by decide) rfl ?_
          refine dk_iload (pc' := 38) hE dX3_value_36 rfl rfl ?_
          refine dk_sipush (pc' := 41) hE dX3_value_38 (by decide) rfl ?_
          refine dk_icmp_ge (tgt := 82) (pc' := 44) hE dX3_value_41 (by decide) rfl (fun hc12 => ?_) (fun hc12 => ?_)
          · skip
            refine dk_iload (pc' := 84) hE dX3_value_82 rfl rfl ?_
            refine dk_sipush (pc' := 87) hE dX3_value_84 (by decide) rfl ?_
            refine dk_icmp_ne (tgt := 119) (pc' := 90) hE dX3_value_87 (by decide) rfl (fun hc13 => ?_) (fun hc13 => ?_)
            · skip
              refine dk_iload (pc' := 121) hE dX3_value_119 rfl rfl ?_
              refine dk_iconst (pc' := 122) hE dX3_value_121 (by decide) rfl ?_
              refine dk_icmp_lt (tgt := 155) (pc' := 125) hE dX3_value_122 (by decide) rfl (fun hc14 => ?_) (fun hc14 => ?_)
              · skip
                obtain ⟨v15, hv15⟩ : ∃ z : Int, z = i + 1 := ⟨_, rfl⟩
                refine dk_iinc (pc' := 158) (ls' := [(4, r), (0, a), (4, 72), (4, 73), (0, t), (0, v15), (0, v11)]) hE dX3_value_155 rfl hv15.symm (by omega) rfl (by decide) rfl ?_
                refine dk_goto (tgt := 11) hE dX3_value_158 (by decide) ?_
                refine dk_drop (ls' := [(4, r), (0, a), (4, 72), (4, 73), (0, t), (0, v15), (9, 0)]) [true, true, true, true, true, true, false] rfl ?_
                exact ih11 t v15 σ11c (by omega) (fun k_ j_ h_ => by rw [hF11 k_ j_ (fun w_ => h_ (w_))]) (by omega) (by omega)
              · skip
                refine dk_aload_n (pc' := 126) hE dX3_value_125 rfl rfl rfl ?_
                refine dk_iload (pc' := 128) hE dX3_value_126 rfl rfl ?_
                refine dk_iconst (pc' := 129) hE dX3_value_128 (by decide) rfl ?_
                obtain ⟨v16, hv16⟩ : ∃ z : Int, z = t - 2 := ⟨_, rfl⟩
                refine dk_isub (pc' := 130) hE dX3_value_129 hv16.symm (by omega) rfl ?_
                refine dk_iload (pc' := 132) hE dX3_value_130 rfl rfl ?_
                refine dk_sipush (pc' := 135) hE dX3_value_132 (by decide) rfl ?_
                obtain ⟨v17, hv17⟩ : ∃ z : Int, z = v11 - 20000 := ⟨_, rfl⟩
                refine dk_isub (pc' := 136) hE dX3_value_135 hv17.symm (by omega) rfl ?_
                refine dk_aload_n (pc' := 137) hE dX3_value_136 rfl rfl rfl ?_
                refine dk_iload (pc' := 139) hE dX3_value_137 rfl rfl ?_
                refine dk_iconst (pc' := 140) hE dX3_value_139 (by decide) rfl ?_
                obtain ⟨v18, hv18⟩ : ∃ z : Int, z = t - 2 := ⟨_, rfl⟩
                refine dk_isub (pc' := 141) hE dX3_value_140 hv18.symm (by omega) rfl ?_
                refine ga_46 (pc' := 142) hE dX3_value_141 is_73 (by omega) rfl (fun v19 hv19 htv19 hbv19 => ?_)
                refine dk_aload_n (pc' := 143) hE dX3_value_142 rfl rfl rfl ?_
                refine dk_iload (pc' := 145) hE dX3_value_143 rfl rfl ?_
                refine dk_iconst (pc' := 146) hE dX3_value_145 (by decide) rfl ?_
                obtain ⟨v20, hv20⟩ : ∃ z : Int, z = t - 1 := ⟨_, rfl⟩
                refine dk_isub (pc' := 147) hE dX3_value_146 hv20.symm (by omega) rfl ?_
                refine ga_46 (pc' := 148) hE dX3_value_147 is_73 (by omega) rfl (fun v21 hv21 htv21 hbv21 => ?_)
                refine dk_cS (pc' := 151) (as := [(0, v17), (0, v19), (0, v21)]) hE lk_X3_33 (ct_X3_joined l G hGd v17 v19 v21) dX3_value_148 rfl rfl (by decide) (Nat.le_of_ble_eq_true rfl) rfl rfl (fun r23 σ22 hr23 _ => ?_)
                obtain ⟨v24, rfl, hfσ22, hpr23⟩ := hr23
                have hsσ22 : σ11c = σ22 := (funext (fun k => funext (fun j => hfσ22 k j not_false))).symm
                subst hsσ22
                refine pa_46 (pc' := 152) hE dX3_value_151 is_73 (by omega) trivial rfl (fun σ25 eσ25 => ?_)
                obtain ⟨v26, hv26⟩ : ∃ z : Int, z = t + (-1) := ⟨_, rfl⟩
                refine dk_iinc (pc' := 155) (ls' := [(4, r), (0, a), (4, 72), (4, 73), (0, v26), (0, i), (0, v11)]) hE dX3_value_152 rfl hv26.symm (by omega) rfl (by decide) rfl ?_
                obtain ⟨v27, hv27⟩ : ∃ z : Int, z = i + 1 := ⟨_, rfl⟩
                refine dk_iinc (pc' := 158) (ls' := [(4, r), (0, a), (4, 72), (4, 73), (0, v26), (0, v27), (0, v11)]) hE dX3_value_155 rfl hv27.symm (by omega) rfl (by decide) rfl ?_
                refine dk_goto (tgt := 11) hE dX3_value_158 (by decide) ?_
                refine dk_drop (ls' := [(4, r), (0, a), (4, 72), (4, 73), (0, v26), (0, v27), (9, 0)]) [true, true, true, true, true, true, false] rfl ?_
                exact ih11 v26 v27 σ25 (by omega) (fun k_ j_ h_ => by rw [eσ25, dk_up_n (show ¬ (k_ = 73 ∧ j_ = v16) from fun q_ => h_ (q_.1)), hF11 k_ j_ (fun w_ => h_ (w_))]) (by omega) (by omega)
            · skip
              refine dk_iload (pc' := 92) hE dX3_value_90 rfl rfl ?_
              refine dk_iconst (pc' := 93) hE dX3_value_92 (by decide) rfl ?_
              refine dk_icmp_lt (tgt := 155) (pc' := 96) hE dX3_value_93 (by decide) rfl (fun hc28 => ?_) (fun hc28 => ?_)
              · skip
                obtain ⟨v29, hv29⟩ : ∃ z : Int, z = i + 1 := ⟨_, rfl⟩
                refine dk_iinc (pc' := 158) (ls' := [(4, r), (0, a), (4, 72), (4, 73), (0, t), (0, v29), (0, v11)]) hE dX3_value_155 rfl hv29.symm (by omega) rfl (by decide) rfl ?_
                refine dk_goto (tgt := 11) hE dX3_value_158 (by decide) ?_
                refine dk_drop (ls' := [(4, r), (0, a), (4, 72), (4, 73), (0, t), (0, v29), (9, 0)]) [true, true, true, true, true, true, false] rfl ?_
                exact ih11 t v29 σ11c (by omega) (fun k_ j_ h_ => by rw [hF11 k_ j_ (fun w_ => h_ (w_))]) (by omega) (by omega)
              · skip
                refine dk_aload_n (pc' := 97) hE dX3_value_96 rfl rfl rfl ?_
                refine dk_iload (pc' := 99) hE dX3_value_97 rfl rfl ?_
                refine dk_iconst (pc' := 100) hE dX3_value_99 (by decide) rfl ?_
                obtain ⟨v30, hv30⟩ : ∃ z : Int, z = t - 1 := ⟨_, rfl⟩
                refine dk_isub (pc' := 101) hE dX3_value_100 hv30.symm (by omega) rfl ?_
                refine dk_aload_n (pc' := 102) hE dX3_value_101 rfl rfl rfl ?_
                refine dk_iload (pc' := 104) hE dX3_value_102 rfl rfl ?_
                refine dk_iconst (pc' := 105) hE dX3_value_104 (by decide) rfl ?_
                obtain ⟨v31, hv31⟩ : ∃ z : Int, z = t - 1 := ⟨_, rfl⟩
                refine dk_isub (pc' := 106) hE dX3_value_105 hv31.symm (by omega) rfl ?_
                refine ga_46 (pc' := 107) hE dX3_value_106 is_73 (by omega) rfl (fun v32 hv32 htv32 hbv32 => ?_)
                refine dk_if_ne (tgt := 114) (pc' := 110) hE dX3_value_107 (by decide) rfl (fun hc33 => ?_) (fun hc33 => ?_)
                · skip
                  refine dk_iconst (pc' := 115) hE dX3_value_114 (by decide) rfl ?_
                  refine pa_46 (pc' := 116) hE dX3_value_115 is_73 (by omega) trivial rfl (fun σ34 eσ34 => ?_)
                  refine dk_goto (tgt := 155) hE dX3_value_116 (by decide) ?_
                  obtain ⟨v35, hv35⟩ : ∃ z : Int, z = i + 1 := ⟨_, rfl⟩
                  refine dk_iinc (pc' := 158) (ls' := [(4, r), (0, a), (4, 72), (4, 73), (0, t), (0, v35), (0, v11)]) hE dX3_value_155 rfl hv35.symm (by omega) rfl (by decide) rfl ?_
                  refine dk_goto (tgt := 11) hE dX3_value_158 (by decide) ?_
                  refine dk_drop (ls' := [(4, r), (0, a), (4, 72), (4, 73), (0, t), (0, v35), (9, 0)]) [true, true, true, true, true, true, false] rfl ?_
                  exact ih11 t v35 σ34 (by omega) (fun k_ j_ h_ => by rw [eσ34, dk_up_n (show ¬ (k_ = 73 ∧ j_ = v30) from fun q_ => h_ (q_.1)), hF11 k_ j_ (fun w_ => h_ (w_))]) (by omega) (by omega)
                · skip
                  refine dk_iconst (pc' := 111) hE dX3_value_110 (by decide) rfl ?_
                  refine dk_goto (tgt := 115) hE dX3_value_111 (by decide) ?_
                  refine pa_46 (pc' := 116) hE dX3_value_115 is_73 (by omega) trivial rfl (fun σ36 eσ36 => ?_)
                  refine dk_goto (tgt := 155) hE dX3_value_116 (by decide) ?_
                  obtain ⟨v37, hv37⟩ : ∃ z : Int, z = i + 1 := ⟨_, rfl⟩
                  refine dk_iinc (pc' := 158) (ls' := [(4, r), (0, a), (4, 72), (4, 73), (0, t), (0, v37), (0, v11)]) hE dX3_value_155 rfl hv37.symm (by omega) rfl (by decide) rfl ?_
                  refine dk_goto (tgt := 11) hE dX3_value_158 (by decide) ?_
                  refine dk_drop (ls' := [(4, r), (0, a), (4, 72), (4, 73), (0, t), (0, v37), (9, 0)]) [true, true, true, true, true, true, false] rfl ?_
                  exact ih11 t v37 σ36 (by omega) (fun k_ j_ h_ => by rw [eσ36, dk_up_n (show ¬ (k_ = 73 ∧ j_ = v30) from fun q_ => h_ (q_.1)), hF11 k_ j_ (fun w_ => h_ (w_))]) (by omega) (by omega)
          · skip
            refine dk_iload (pc' := 46) hE dX3_value_44 rfl rfl ?_
            refine dk_aload_n (pc' := 47) hE dX3_value_46 rfl rfl rfl ?_
            refine dk_alen (pc' := 48) hE dX3_value_47 is_73 rfl (w := 60) rfl (by decide) rfl ?_
            refine dk_icmp_ge (tgt := 155) (pc' := 51) hE dX3_value_48 (by decide) rfl (fun hc38 => ?_) (fun hc38 => ?_)
            · skip
              obtain ⟨v39, hv39⟩ : ∃ z : Int, z = i + 1 := ⟨_, rfl⟩
              refine dk_iinc (pc' := 158) (ls' := [(4, r), (0, a), (4, 72), (4, 73), (0, t), (0, v39), (0, v11)]) hE dX3_value_155 rfl hv39.symm (by omega) rfl (by decide) rfl ?_
              refine dk_goto (tgt := 11) hE dX3_value_158 (by decide) ?_
              refine dk_drop (ls' := [(4, r), (0, a), (4, 72), (4, 73), (0, t), (0, v39), (9, 0)]) [true, true, true, true, true, true, false] rfl ?_
              exact ih11 t v39 σ11c (by omega) (fun k_ j_ h_ => by rw [hF11 k_ j_ (fun w_ => h_ (w_))]) (by omega) (by omega)
            · skip
              refine dk_aload_n (pc' := 52) hE dX3_value_51 rfl rfl rfl ?_
              refine dk_iload (pc' := 54) hE dX3_value_52 rfl rfl ?_
              refine dk_iload (pc' := 56) hE dX3_value_54 rfl rfl ?_
              refine dk_sipush (pc' := 59) hE dX3_value_56 (by decide) rfl ?_
              refine dk_icmp_ge (tgt := 67) (pc' := 62) hE dX3_value_59 (by decide) rfl (fun hc40 => ?_) (fun hc40 => ?_)
              · skip
                refine dk_aload_n (pc' := 68) hE dX3_value_67 rfl rfl rfl ?_
                refine dk_iload (pc' := 70) hE dX3_value_68 rfl rfl ?_
                refine dk_sipush (pc' := 73) hE dX3_value_70 (by decide) rfl ?_
                obtain ⟨v41, hv41⟩ : ∃ z : Int, z = v11 - 10000 := ⟨_, rfl⟩
                refine dk_isub (pc' := 74) hE dX3_value_73 hv41.symm (by omega) rfl ?_
                refine ga_45 (pc' := 75) hE dX3_value_74 is_72 (by omega) rfl (fun v42 hv42 htv42 hbv42 => ?_)
                refine pa_46 (pc' := 76) hE dX3_value_75 is_73 (by omega) trivial rfl (fun σ43 eσ43 => ?_)
                obtain ⟨v44, hv44⟩ : ∃ z : Int, z = t + 1 := ⟨_, rfl⟩
                refine dk_iinc (pc' := 79) (ls' := [(4, r), (0, a), (4, 72), (4, 73), (0, v44), (0, i), (0, v11)]) hE dX3_value_76 rfl hv44.symm (by omega) rfl (by decide) rfl ?_
                refine dk_goto (tgt := 155) hE dX3_value_79 (by decide) ?_
                obtain ⟨v45, hv45⟩ : ∃ z : Int, z = i + 1 := ⟨_, rfl⟩
                refine dk_iinc (pc' := 158) (ls' := [(4, r), (0, a), (4, 72), (4, 73), (0, v44), (0, v45), (0, v11)]) hE dX3_value_155 rfl hv45.symm (by omega) rfl (by decide) rfl ?_
                refine dk_goto (tgt := 11) hE dX3_value_158 (by decide) ?_
                refine dk_drop (ls' := [(4, r), (0, a), (4, 72), (4, 73), (0, v44), (0, v45), (9, 0)]) [true, true, true, true, true, true, false] rfl ?_
                exact ih11 v44 v45 σ43 (by omega) (fun k_ j_ h_ => by rw [eσ43, dk_up_n (show ¬ (k_ = 73 ∧ j_ = t) from fun q_ => h_ (q_.1)), hF11 k_ j_ (fun w_ => h_ (w_))]) (by omega) (by omega)
              · skip
                refine dk_iload (pc' := 64) hE dX3_value_62 rfl rfl ?_
                refine dk_goto (tgt := 75) hE dX3_value_64 (by decide) ?_
                refine pa_46 (pc' := 76) hE dX3_value_75 is_73 (by omega) trivial rfl (fun σ46 eσ46 => ?_)
                obtain ⟨v47, hv47⟩ : ∃ z : Int, z = t + 1 := ⟨_, rfl⟩
                refine dk_iinc (pc' := 79) (ls' := [(4, r), (0, a), (4, 72), (4, 73), (0, v47), (0, i), (0, v11)]) hE dX3_value_76 rfl hv47.symm (by omega) rfl (by decide) rfl ?_
                refine dk_goto (tgt := 155) hE dX3_value_79 (by decide) ?_
                obtain ⟨v48, hv48⟩ : ∃ z : Int, z = i + 1 := ⟨_, rfl⟩
                refine dk_iinc (pc' := 158) (ls' := [(4, r), (0, a), (4, 72), (4, 73), (0, v47), (0, v48), (0, v11)]) hE dX3_value_155 rfl hv48.symm (by omega) rfl (by decide) rfl ?_
                refine dk_goto (tgt := 11) hE dX3_value_158 (by decide) ?_
                refine dk_drop (ls' := [(4, r), (0, a), (4, 72), (4, 73), (0, v47), (0, v48), (9, 0)]) [true, true, true, true, true, true, false] rfl ?_
                exact ih11 v47 v48 σ46 (by omega) (fun k_ j_ h_ => by rw [eσ46, dk_up_n (show ¬ (k_ = 73 ∧ j_ = t) from fun q_ => h_ (q_.1)), hF11 k_ j_ (fun w_ => h_ (w_))]) (by omega) (by omega)
  exact lp11 _ 0 v1 σ (Nat.lt_succ_self _) (fun k_ j_ h_ => rfl) (by omega) (by omega)
set_option maxHeartbeats 4000000 in
set_option maxRecDepth 20000 in
theorem ct_X1_tell (l : Launch) (G : dkG) (hGd : dk_Gd G) (a b c d e : Int) : dk_Ct l G dk_Ty yX1_tell cX1_tell 6 (some .int) 1 190 190 (fun av σ => av = [(4, 37), (0, a), (0, b), (0, c), (0, d), (0, e)] ∧ (0 ≤ a ∧ a ≤ 4) ∧ (0 ≤ b ∧ b ≤ 9) ∧ (0 ≤ c ∧ c ≤ 11) ∧ (0 ≤ d ∧ d ≤ 999) ∧ (0 ≤ e ∧ e ≤ 999)) (fun _ σ r_ σ' => ∃ z : Int, r_ = some (0, z) ∧ (∀ k_ j_ : Int, ¬ ((k_ = 37 ∧ j_ = 7) ∨ (38 ≤ k_ ∧ k_ ≤ 44)) → σ' k_ j_ = σ k_ j_) ∧ (True)) := by
  refine dk_enter hGd (by decide) (fun av σ hpre hok => ?_)
  obtain ⟨rfl, ha, hb, hc, hd, he⟩ := hpre
  refine ⟨Nat.le_of_ble_eq_true rfl, fun E hE hR _ => ?_⟩
  have hi_a : dk_i32 a := dk_oki (hok _ (by simp))
  have hi_b : dk_i32 b := dk_oki (hok _ (by simp))
  have hi_c : dk_i32 c := dk_oki (hok _ (by simp))
  have hi_d : dk_i32 d := dk_oki (hok _ (by simp))
  have hi_e : dk_i32 e := dk_oki (hok _ (by simp))
  show dk_PJ E 0 [(4, 37), (0, a), (0, b), (0, c), (0, d), (0, e)] [] 190 σ
  refine dk_aload_n (pc' := 1) hE dX1_tell_0 rfl rfl rfl ?_
  refine gf_1_7 (pc' := 4) hE fl_X1_33 dX1_tell_1 is_37 rfl (fun v1 hv1 htv1 hbv1 => ?_)
  refine dk_sipush (pc' := 7) hE dX1_tell_4 (by decide) rfl ?_
  refine dk_icmp_lt (tgt := 12) (pc' := 10) hE dX1_tell_7 (by decide) rfl (fun hc2 => ?_) (fun hc2 => ?_)
  · skip
    refine dk_aload_n (pc' := 13) hE dX1_tell_12 rfl rfl rfl ?_
    refine gf_1_0 (pc' := 16) (w := 38) hE fl_X1_11 dX1_tell_13 is_37 rfl rfl ?_
    refine dk_aload_n (pc' := 17) hE dX1_tell_16 rfl rfl rfl ?_
    refine gf_1_7 (pc' := 20) hE fl_X1_33 dX1_tell_17 is_37 rfl (fun v3 hv3 htv3 hbv3 => ?_)
    have hq3 : v1 = v3 := (show v3 = v1 by rw [hv3, hv1]).symm
    subst hq3
    clear htv3 hbv3
    refine dk_iload_n (pc' := 21) hE dX1_tell_20 rfl rfl rfl ?_
    refine pa_30 (pc' := 22) hE dX1_tell_21 is_38 (by omega) (by omega) rfl (fun σ4 eσ4 => ?_)
    refine dk_aload_n (pc' := 23) hE dX1_tell_22 rfl rfl rfl ?_
    refine gf_1_1 (pc' := 26) (w := 39) hE fl_X1_15 dX1_tell_23 is_37 rfl rfl ?_
    refine dk_aload_n (pc' := 27) hE dX1_tell_26 rfl rfl rfl ?_
    refine gf_1_7 (pc' := 30) hE fl_X1_33 dX1_tell_27 is_37 rfl (fun v5 hv5 htv5 hbv5 => ?_)
    have hq5 : v1 = v5 := (show v5 = v1 by rw [hv5, eσ4, dk_up_n (show ¬ (37 = 38 ∧ 7 = v1) by omega), hv3]).symm
    subst hq5
    clear htv5 hbv5
    refine dk_iload_n (pc' := 31) hE dX1_tell_30 rfl rfl rfl ?_
    refine pa_31 (pc' := 32) hE dX1_tell_31 is_39 (by omega) (by omega) rfl (fun σ6 eσ6 => ?_)
    refine dk_aload_n (pc' := 33) hE dX1_tell_32 rfl rfl rfl ?_
    refine gf_1_2 (pc' := 36) (w := 40) hE fl_X1_18 dX1_tell_33 is_37 rfl rfl ?_
    refine dk_aload_n (pc' := 37) hE dX1_tell_36 rfl rfl rfl ?_
    refine gf_1_7 (pc' := 40) hE fl_X1_33 dX1_tell_37 is_37 rfl (fun v7 hv7 htv7 hbv7 => ?_)
    have hq7 : v1 = v7 := (show v7 = v1 by rw [hv7, eσ6, dk_up_n (show ¬ (37 = 39 ∧ 7 = v1) by omega), hv5]).symm
    subst hq7
    clear htv7 hbv7
    refine dk_iload_n (pc' := 41) hE dX1_tell_40 rfl rfl rfl ?_
    refine pa_32 (pc' := 42) hE dX1_tell_41 is_40 (by omega) (by omega) rfl (fun σ8 eσ8 => ?_)
    refine dk_aload_n (pc' := 43) hE dX1_tell_42 rfl rfl rfl ?_
    refine gf_1_3 (pc' := 46) (w := 41) hE fl_X1_21 dX1_tell_43 is_37 rfl rfl ?_
    refine dk_aload_n (pc' := 47) hE dX1_tell_46 rfl rfl rfl ?_
    refine gf_1_7 (pc' := 50) hE fl_X1_33 dX1_tell_47 is_37 rfl (fun v9 hv9 htv9 hbv9 => ?_)
    have hq9 : v1 = v9 := (show v9 = v1 by rw [hv9, eσ8, dk_up_n (show ¬ (37 = 40 ∧ 7 = v1) by omega), hv7]).symm
    subst hq9
    clear htv9 hbv9
    refine dk_iload (pc' := 52) hE dX1_tell_50 rfl rfl ?_
    refine pa_33 (pc' := 53) hE dX1_tell_52 is_41 (by omega) (by omega) rfl (fun σ10 eσ10 => ?_)
    refine dk_aload_n (pc' := 54) hE dX1_tell_53 rfl rfl rfl ?_
    refine gf_1_4 (pc' := 57) (w := 42) hE fl_X1_24 dX1_tell_54 is_37 rfl rfl ?_
    refine dk_aload_n (pc' := 58) hE dX1_tell_57 rfl rfl rfl ?_
    refine gf_1_7 (pc' := 61) hE fl_X1_33 dX1_tell_58 is_37 rfl (fun v11 hv11 htv11 hbv11 => ?_)
    have hq11 : v1 = v11 := (show v11 = v1 by rw [hv11, eσ10, dk_up_n (show ¬ (37 = 41 ∧ 7 = v1) by omega), hv9]).symm
    subst hq11
    clear htv11 hbv11
    refine dk_iload (pc' := 63) hE dX1_tell_61 rfl rfl ?_
    refine pa_34 (pc' := 64) hE dX1_tell_63 is_42 (by omega) (by omega) rfl (fun σ12 eσ12 => ?_)
    refine dk_aload_n (pc' := 65) hE dX1_tell_64 rfl rfl rfl ?_
    refine gf_1_5 (pc' := 68) (w := 43) hE fl_X1_27 dX1_tell_65 is_37 rfl rfl ?_
    refine dk_aload_n (pc' := 69) hE dX1_tell_68 rfl rfl rfl ?_
    refine gf_1_7 (pc' := 72) hE fl_X1_33 dX1_tell_69 is_37 rfl (fun v13 hv13 htv13 hbv13 => ?_)
    have hq13 : v1 = v13 := (show v13 = v1 by rw [hv13, eσ12, dk_up_n (show ¬ (37 = 42 ∧ 7 = v1) by omega), hv11]).symm
    subst hq13
    clear htv13 hbv13
    refine dk_aload_n (pc' := 73) hE dX1_tell_72 rfl rfl rfl ?_
    refine gf_1_8 (pc' := 76) hE fl_X1_37 dX1_tell_73 is_37 rfl (fun v14 hv14 htv14 hbv14 => ?_)
    refine pa_35 (pc' := 77) hE dX1_tell_76 is_43 (by omega) trivial rfl (fun σ15 eσ15 => ?_)
    refine dk_aload_n (pc' := 78) hE dX1_tell_77 rfl rfl rfl ?_
    refine gf_1_6 (pc' := 81) (w := 44) hE fl_X1_30 dX1_tell_78 is_37 rfl rfl ?_
    refine dk_aload_n (pc' := 82) hE dX1_tell_81 rfl rfl rfl ?_
    refine gf_1_7 (pc' := 85) hE fl_X1_33 dX1_tell_82 is_37 rfl (fun v16 hv16 htv16 hbv16 => ?_)
    have hq16 : v1 = v16 := (show v16 = v1 by rw [hv16, eσ15, dk_up_n (show ¬ (37 = 43 ∧ 7 = v1) by omega), hv13]).symm
    subst hq16
    clear htv16 hbv16
    refine dk_iconst (pc' := 86) hE dX1_tell_85 (by decide) rfl ?_
    refine pa_36 (pc' := 87) hE dX1_tell_86 is_44 (by omega) trivial rfl (fun σ17 eσ17 => ?_)
    refine dk_aload_n (pc' := 88) hE dX1_tell_87 rfl rfl rfl ?_
    refine dk_dup (pc' := 89) hE dX1_tell_88 (show (4 : Nat) ≠ 3 by decide) rfl ?_
    refine gf_1_7 (pc' := 92) hE fl_X1_33 dX1_tell_89 is_37 rfl (fun v18 hv18 htv18 hbv18 => ?_)
    have hq18 : v1 = v18 := (show v18 = v1 by rw [hv18, eσ17, dk_up_n (show ¬ (37 = 44 ∧ 7 = v1) by omega), hv16]).symm
    subst hq18
    clear htv18 hbv18
    refine dk_iconst (pc' := 93) hE dX1_tell_92 (by decide) rfl ?_
    obtain ⟨v19, hv19⟩ : ∃ z : Int, z = v1 + 1 := ⟨_, rfl⟩
    refine dk_iadd (pc' := 94) hE dX1_tell_93 hv19.symm (by omega) rfl ?_
    refine pf_1_7 (pc' := 97) hE fl_X1_33 dX1_tell_94 is_37 (by omega) rfl (fun σ20 eσ20 => ?_)
    refine dk_aload_n (pc' := 98) hE dX1_tell_97 rfl rfl rfl ?_
    refine gf_1_7 (pc' := 101) hE fl_X1_33 dX1_tell_98 is_37 rfl (fun v21 hv21 htv21 hbv21 => ?_)
    have hq21 : v19 = v21 := (show v21 = v19 by rw [hv21, eσ20, dk_up_s]).symm
    subst hq21
    clear htv21 hbv21
    refine dk_iconst (pc' := 102) hE dX1_tell_101 (by decide) rfl ?_
    obtain ⟨v22, hv22⟩ : ∃ z : Int, z = v19 - 1 := ⟨_, rfl⟩
    refine dk_isub (pc' := 103) hE dX1_tell_102 hv22.symm (by omega) rfl ?_
    exact dk_iret (st := []) hE hR dX1_tell_103 ⟨_, rfl, (fun k_ j_ h_ => by rw [eσ20, dk_up_n (show ¬ (k_ = 37 ∧ j_ = 7) from fun q_ => h_ (Or.inl (q_))), eσ17, dk_up_n (show ¬ (k_ = 44 ∧ j_ = v1) from fun q_ => h_ (Or.inr (dk_wr (lo := 38) (hi := 44) q_.1 (by decide)))), eσ15, dk_up_n (show ¬ (k_ = 43 ∧ j_ = v1) from fun q_ => h_ (Or.inr (dk_wr (lo := 38) (hi := 44) q_.1 (by decide)))), eσ12, dk_up_n (show ¬ (k_ = 42 ∧ j_ = v1) from fun q_ => h_ (Or.inr (dk_wr (lo := 38) (hi := 44) q_.1 (by decide)))), eσ10, dk_up_n (show ¬ (k_ = 41 ∧ j_ = v1) from fun q_ => h_ (Or.inr (dk_wr (lo := 38) (hi := 44) q_.1 (by decide)))), eσ8, dk_up_n (show ¬ (k_ = 40 ∧ j_ = v1) from fun q_ => h_ (Or.inr (dk_wr (lo := 38) (hi := 44) q_.1 (by decide)))), eσ6, dk_up_n (show ¬ (k_ = 39 ∧ j_ = v1) from fun q_ => h_ (Or.inr (dk_wr (lo := 38) (hi := 44) q_.1 (by decide)))), eσ4, dk_up_n (show ¬ (k_ = 38 ∧ j_ = v1) from fun q_ => h_ (Or.inr (dk_wr (lo := 38) (hi := 44) q_.1 (by decide))))]), trivial⟩
  · skip
    refine dk_iconst (pc' := 11) hE dX1_tell_10 (by decide) rfl ?_
    exact dk_iret (st := []) hE hR dX1_tell_11 ⟨_, rfl, (fun k_ j_ h_ => rfl), trivial⟩
set_option maxHeartbeats 4000000 in
set_option maxRecDepth 20000 in
theorem ct_X1_takeBack (l : Launch) (G : dkG) (hGd : dk_Gd G) (a : Int) : dk_Ct l G dk_Ty yX1_takeBack cX1_takeBack 2 (some .boolean) 1 190 190 (fun av σ => av = [(4, 37), (0, a)]) (fun _ σ r_ σ' => ∃ z : Int, r_ = some (0, z) ∧ (∀ k_ j_ : Int, ¬ (k_ = 44) → σ' k_ j_ = σ k_ j_) ∧ (0 ≤ z ∧ z ≤ 1)) := by
  refine dk_enter hGd (by decide) (fun av σ hpre hok => ?_)
  subst hpre
  refine ⟨Nat.le_of_ble_eq_true rfl, fun E hE hR _ => ?_⟩
  have hi_a : dk_i32 a := dk_oki (hok _ (by simp))
  show dk_PJ E 0 [(4, 37), (0, a)] [] 190 σ
  refine dk_iload_n (pc' := 1) hE dX1_takeBack_0 rfl rfl rfl ?_
  refine dk_if_lt (tgt := 22) (pc' := 4) hE dX1_takeBack_1 (by decide) rfl (fun hc1 => ?_) (fun hc1 => ?_)
  · skip
    refine dk_iconst (pc' := 23) hE dX1_takeBack_22 (by decide) rfl ?_
    exact dk_zret (st := []) hE hR dX1_takeBack_23 (by omega) ⟨_, rfl, (fun k_ j_ h_ => rfl), by omega⟩
  · skip
    refine dk_iload_n (pc' := 5) hE dX1_takeBack_4 rfl rfl rfl ?_
    refine dk_aload_n (pc' := 6) hE dX1_takeBack_5 rfl rfl rfl ?_
    refine gf_1_7 (pc' := 9) hE fl_X1_33 dX1_takeBack_6 is_37 rfl (fun v2 hv2 htv2 hbv2 => ?_)
    refine dk_icmp_ge (tgt := 22) (pc' := 12) hE dX1_takeBack_9 (by decide) rfl (fun hc3 => ?_) (fun hc3 => ?_)
    · skip
      refine dk_iconst (pc' := 23) hE dX1_takeBack_22 (by decide) rfl ?_
      exact dk_zret (st := []) hE hR dX1_takeBack_23 (by omega) ⟨_, rfl, (fun k_ j_ h_ => rfl), by omega⟩
    · skip
      refine dk_aload_n (pc' := 13) hE dX1_takeBack_12 rfl rfl rfl ?_
      refine gf_1_6 (pc' := 16) (w := 44) hE fl_X1_30 dX1_takeBack_13 is_37 rfl rfl ?_
      refine dk_iload_n (pc' := 17) hE dX1_takeBack_16 rfl rfl rfl ?_
      refine ga_36 (pc' := 18) hE dX1_takeBack_17 is_44 (by omega) rfl (fun v4 hv4 htv4 hbv4 => ?_)
      refine dk_iconst (pc' := 19) hE dX1_takeBack_18 (by decide) rfl ?_
      refine dk_icmp_eq (tgt := 24) (pc' := 22) hE dX1_takeBack_19 (by decide) rfl (fun hc5 => ?_) (fun hc5 => ?_)
      · skip
        refine dk_aload_n (pc' := 25) hE dX1_takeBack_24 rfl rfl rfl ?_
        refine gf_1_6 (pc' := 28) (w := 44) hE fl_X1_30 dX1_takeBack_25 is_37 rfl rfl ?_
        refine dk_iload_n (pc' := 29) hE dX1_takeBack_28 rfl rfl rfl ?_
        refine dk_aload_n (pc' := 30) hE dX1_takeBack_29 rfl rfl rfl ?_
        refine gf_1_8 (pc' := 33) hE fl_X1_37 dX1_takeBack_30 is_37 rfl (fun v6 hv6 htv6 hbv6 => ?_)
        refine pa_36 (pc' := 34) hE dX1_takeBack_33 is_44 (by omega) trivial rfl (fun σ7 eσ7 => ?_)
        refine dk_iconst (pc' := 35) hE dX1_takeBack_34 (by decide) rfl ?_
        exact dk_zret (st := []) hE hR dX1_takeBack_35 (by omega) ⟨_, rfl, (fun k_ j_ h_ => by rw [eσ7, dk_up_n (show ¬ (k_ = 44 ∧ j_ = a) from fun q_ => h_ (q_.1))]), by omega⟩
      · skip
        refine dk_iconst (pc' := 23) hE dX1_takeBack_22 (by decide) rfl ?_
        exact dk_zret (st := []) hE hR dX1_takeBack_23 (by omega) ⟨_, rfl, (fun k_ j_ h_ => rfl), by omega⟩
set_option maxHeartbeats 4000000 in
set_option maxRecDepth 20000 in
theorem ct_X1_counts (l : Launch) (G : dkG) (hGd : dk_Gd G) (f t : Int) : dk_Ct l G dk_Ty yX1_counts cX1_counts 3 (some .boolean) 1 190 190 (fun av σ => av = [(4, 37), (0, f), (0, t)] ∧ (0 ≤ f ∧ f < 200)) (fun _ σ r_ σ' => ∃ z : Int, r_ = some (0, z) ∧ (∀ k_ j_ : Int, ¬ (False) → σ' k_ j_ = σ k_ j_) ∧ (0 ≤ z ∧ z ≤ 1)) := by
  refine dk_enter hGd (by decide) (fun av σ hpre hok => ?_)
  obtain ⟨rfl, hf⟩ := hpre
  refine ⟨Nat.le_of_ble_eq_true rfl, fun E hE hR _ => ?_⟩
  have hi_f : dk_i32 f := dk_oki (hok _ (by simp))
  have hi_t : dk_i32 t := dk_oki (hok _ (by simp))
  show dk_PJ E 0 [(4, 37), (0, f), (0, t)] [] 190 σ
  refine dk_aload_n (pc' := 1) hE dX1_counts_0 rfl rfl rfl ?_
  refine gf_1_5 (pc' := 4) (w := 43) hE fl_X1_27 dX1_counts_1 is_37 rfl rfl ?_
  refine dk_iload_n (pc' := 5) hE dX1_counts_4 rfl rfl rfl ?_
  refine ga_35 (pc' := 6) hE dX1_counts_5 is_43 (by omega) rfl (fun v1 hv1 htv1 hbv1 => ?_)
  refine dk_iload_n (pc' := 7) hE dX1_counts_6 rfl rfl rfl ?_
  refine dk_icmp_gt (tgt := 34) (pc' := 10) hE dX1_counts_7 (by decide) rfl (fun hc2 => ?_) (fun hc2 => ?_)
  · skip
    refine dk_iconst (pc' := 35) hE dX1_counts_34 (by decide) rfl ?_
    exact dk_zret (st := []) hE hR dX1_counts_35 (by omega) ⟨_, rfl, (fun k_ j_ h_ => rfl), by omega⟩
  · skip
    refine dk_aload_n (pc' := 11) hE dX1_counts_10 rfl rfl rfl ?_
    refine gf_1_6 (pc' := 14) (w := 44) hE fl_X1_30 dX1_counts_11 is_37 rfl rfl ?_
    refine dk_iload_n (pc' := 15) hE dX1_counts_14 rfl rfl rfl ?_
    refine ga_36 (pc' := 16) hE dX1_counts_15 is_44 (by omega) rfl (fun v3 hv3 htv3 hbv3 => ?_)
    refine dk_iconst (pc' := 17) hE dX1_counts_16 (by decide) rfl ?_
    refine dk_icmp_eq (tgt := 30) (pc' := 20) hE dX1_counts_17 (by decide) rfl (fun hc4 => ?_) (fun hc4 => ?_)
    · skip
      refine dk_iconst (pc' := 31) hE dX1_counts_30 (by decide) rfl ?_
      refine dk_goto (tgt := 35) hE dX1_counts_31 (by decide) ?_
      exact dk_zret (st := []) hE hR dX1_counts_35 (by omega) ⟨_, rfl, (fun k_ j_ h_ => rfl), by omega⟩
    · skip
      refine dk_aload_n (pc' := 21) hE dX1_counts_20 rfl rfl rfl ?_
      refine gf_1_6 (pc' := 24) (w := 44) hE fl_X1_30 dX1_counts_21 is_37 rfl rfl ?_
      refine dk_iload_n (pc' := 25) hE dX1_counts_24 rfl rfl rfl ?_
      refine ga_36 (pc' := 26) hE dX1_counts_25 is_44 (by omega) rfl (fun v5 hv5 htv5 hbv5 => ?_)
      have hq5 : v3 = v5 := (show v5 = v3 by rw [hv5, hv3]).symm
      subst hq5
      clear htv5 hbv5
      refine dk_iload_n (pc' := 27) hE dX1_counts_26 rfl rfl rfl ?_
      refine dk_icmp_le (tgt := 34) (pc' := 30) hE dX1_counts_27 (by decide) rfl (fun hc6 => ?_) (fun hc6 => ?_)
      · skip
        refine dk_iconst (pc' := 35) hE dX1_counts_34 (by decide) rfl ?_
        exact dk_zret (st := []) hE hR dX1_counts_35 (by omega) ⟨_, rfl, (fun k_ j_ h_ => rfl), by omega⟩
      · skip
        refine dk_iconst (pc' := 31) hE dX1_counts_30 (by decide) rfl ?_
        refine dk_goto (tgt := 35) hE dX1_counts_31 (by decide) ?_
        exact dk_zret (st := []) hE hR dX1_counts_35 (by omega) ⟨_, rfl, (fun k_ j_ h_ => rfl), by omega⟩
set_option maxHeartbeats 4000000 in
set_option maxRecDepth 20000 in
theorem ct_X6_variableOf (l : Launch) (G : dkG) (hGd : dk_Gd G) (a : Int) : dk_Ct l G dk_Ty yX6_variableOf cX6_variableOf 1 (some .int) 1 190 190 (fun av σ => av = [(0, a)]) (fun _ σ r_ σ' => ∃ z : Int, r_ = some (0, z) ∧ (∀ k_ j_ : Int, ¬ (False) → σ' k_ j_ = σ k_ j_) ∧ (-1 ≤ z ∧ z ≤ 9)) := by
  refine dk_enter hGd (by decide) (fun av σ hpre hok => ?_)
  subst hpre
  refine ⟨Nat.le_of_ble_eq_true rfl, fun E hE hR _ => ?_⟩
  have hi_a : dk_i32 a := dk_oki (hok _ (by simp))
  show dk_PJ E 0 [(0, a)] [] 190 σ
  refine dk_iload_n (pc' := 1) hE dX6_variableOf_0 rfl rfl rfl ?_
  refine dk_table (tgs := [111, 120, 98, 120, 120, 120, 120, 120, 120, 120, 120, 120, 96, 100, 102, 104, 106, 108, 114, 117]) (td := 120) hE dX6_variableOf_1 (by decide) (by decide) (by decide) (fun hc1 => ?_) (fun i2 t3 q4 hc1 => ?_)
  · skip
    refine dk_iconst (pc' := 121) hE dX6_variableOf_120 (by decide) rfl ?_
    exact dk_iret (st := []) hE hR dX6_variableOf_121 ⟨_, rfl, (fun k_ j_ h_ => rfl), by omega⟩
  · have i2l : i2 < 20 := (List.getElem?_eq_some_iff.mp q4).1
    rcases (show i2 = 0 ∨ i2 = 1 ∨ i2 = 2 ∨ i2 = 3 ∨ i2 = 4 ∨ i2 = 5 ∨ i2 = 6 ∨ i2 = 7 ∨ i2 = 8 ∨ i2 = 9 ∨ i2 = 10 ∨ i2 = 11 ∨ i2 = 12 ∨ i2 = 13 ∨ i2 = 14 ∨ i2 = 15 ∨ i2 = 16 ∨ i2 = 17 ∨ i2 = 18 ∨ i2 = 19 by omega) with rfl | rfl | rfl | rfl | rfl | rfl | rfl | rfl | rfl | rfl | rfl | rfl | rfl | rfl | rfl | rfl | rfl | rfl | rfl | rfl
    · cases q4
      refine dk_bipush (pc' := 113) hE dX6_variableOf_111 (by decide) rfl ?_
      exact dk_iret (st := []) hE hR dX6_variableOf_113 ⟨_, rfl, (fun k_ j_ h_ => rfl), by omega⟩
    · cases q4
      refine dk_iconst (pc' := 121) hE dX6_variableOf_120 (by decide) rfl ?_
      exact dk_iret (st := []) hE hR dX6_variableOf_121 ⟨_, rfl, (fun k_ j_ h_ => rfl), by omega⟩
    · cases q4
      refine dk_iconst (pc' := 99) hE dX6_variableOf_98 (by decide) rfl ?_
      exact dk_iret (st := []) hE hR dX6_variableOf_99 ⟨_, rfl, (fun k_ j_ h_ => rfl), by omega⟩
    · cases q4
      refine dk_iconst (pc' := 121) hE dX6_variableOf_120 (by decide) rfl ?_
      exact dk_iret (st := []) hE hR dX6_variableOf_121 ⟨_, rfl, (fun k_ j_ h_ => rfl), by omega⟩
    · cases q4
      refine dk_iconst (pc' := 121) hE dX6_variableOf_120 (by decide) rfl ?_
      exact dk_iret (st := []) hE hR dX6_variableOf_121 ⟨_, rfl, (fun k_ j_ h_ => rfl), by omega⟩
    · cases q4
      refine dk_iconst (pc' := 121) hE dX6_variableOf_120 (by decide) rfl ?_
      exact dk_iret (st := []) hE hR dX6_variableOf_121 ⟨_, rfl, (fun k_ j_ h_ => rfl), by omega⟩
    · cases q4
      refine dk_iconst (pc' := 121) hE dX6_variableOf_120 (by decide) rfl ?_
      exact dk_iret (st := []) hE hR dX6_variableOf_121 ⟨_, rfl, (fun k_ j_ h_ => rfl), by omega⟩
    · cases q4
      refine dk_iconst (pc' := 121) hE dX6_variableOf_120 (by decide) rfl ?_
      exact dk_iret (st := []) hE hR dX6_variableOf_121 ⟨_, rfl, (fun k_ j_ h_ => rfl), by omega⟩
    · cases q4
      refine dk_iconst (pc' := 121) hE dX6_variableOf_120 (by decide) rfl ?_
      exact dk_iret (st := []) hE hR dX6_variableOf_121 ⟨_, rfl, (fun k_ j_ h_ => rfl), by omega⟩
    · cases q4
      refine dk_iconst (pc' := 121) hE dX6_variableOf_120 (by decide) rfl ?_
      exact dk_iret (st := []) hE hR dX6_variableOf_121 ⟨_, rfl, (fun k_ j_ h_ => rfl), by omega⟩
    · cases q4
      refine dk_iconst (pc' := 121) hE dX6_variableOf_120 (by decide) rfl ?_
      exact dk_iret (st := []) hE hR dX6_variableOf_121 ⟨_, rfl, (fun k_ j_ h_ => rfl), by omega⟩
    · cases q4
      refine dk_iconst (pc' := 121) hE dX6_variableOf_120 (by decide) rfl ?_
      exact dk_iret (st := []) hE hR dX6_variableOf_121 ⟨_, rfl, (fun k_ j_ h_ => rfl), by omega⟩
    · cases q4
      refine dk_iconst (pc' := 97) hE dX6_variableOf_96 (by decide) rfl ?_
      exact dk_iret (st := []) hE hR dX6_variableOf_97 ⟨_, rfl, (fun k_ j_ h_ => rfl), by omega⟩
    · cases q4
      refine dk_iconst (pc' := 101) hE dX6_variableOf_100 (by decide) rfl ?_
      exact dk_iret (st := []) hE hR dX6_variableOf_101 ⟨_, rfl, (fun k_ j_ h_ => rfl), by omega⟩
    · cases q4
      refine dk_iconst (pc' := 103) hE dX6_variableOf_102 (by decide) rfl ?_
      exact dk_iret (st := []) hE hR dX6_variableOf_103 ⟨_, rfl, (fun k_ j_ h_ => rfl), by omega⟩
    · cases q4
      refine dk_iconst (pc' := 105) hE dX6_variableOf_104 (by decide) rfl ?_
      exact dk_iret (st := []) hE hR dX6_variableOf_105 ⟨_, rfl, (fun k_ j_ h_ => rfl), by omega⟩
    · cases q4
      refine dk_iconst (pc' := 107) hE dX6_variableOf_106 (by decide) rfl ?_
      exact dk_iret (st := []) hE hR dX6_variableOf_107 ⟨_, rfl, (fun k_ j_ h_ => rfl), by omega⟩
    · cases q4
      refine dk_bipush (pc' := 110) hE dX6_variableOf_108 (by decide) rfl ?_
      exact dk_iret (st := []) hE hR dX6_variableOf_110 ⟨_, rfl, (fun k_ j_ h_ => rfl), by omega⟩
    · cases q4
      refine dk_bipush (pc' := 116) hE dX6_variableOf_114 (by decide) rfl ?_
      exact dk_iret (st := []) hE hR dX6_variableOf_116 ⟨_, rfl, (fun k_ j_ h_ => rfl), by omega⟩
    · cases q4
      refine dk_bipush (pc' := 119) hE dX6_variableOf_117 (by decide) rfl ?_
      exact dk_iret (st := []) hE hR dX6_variableOf_119 ⟨_, rfl, (fun k_ j_ h_ => rfl), by omega⟩
set_option maxHeartbeats 4000000 in
set_option maxRecDepth 20000 in
theorem ct_X2_lineOf (l : Launch) (G : dkG) (hGd : dk_Gd G) (a : Int) : dk_Ct l G dk_Ty yX2_lineOf cX2_lineOf 1 (some .int) 1 190 190 (fun av σ => av = [(0, a)]) (fun _ σ r_ σ' => ∃ z : Int, r_ = some (0, z) ∧ (∀ k_ j_ : Int, ¬ (False) → σ' k_ j_ = σ k_ j_) ∧ (-1 ≤ z ∧ z ≤ 2)) := by
  refine dk_enter hGd (by decide) (fun av σ hpre hok => ?_)
  subst hpre
  refine ⟨Nat.le_of_ble_eq_true rfl, fun E hE hR _ => ?_⟩
  have hi_a : dk_i32 a := dk_oki (hok _ (by simp))
  show dk_PJ E 0 [(0, a)] [] 190 σ
  refine dk_iload_n (pc' := 1) hE dX2_lineOf_0 rfl rfl rfl ?_
  refine dk_table (tgs := [28, 32, 30]) (td := 34) hE dX2_lineOf_1 (by decide) (by decide) (by decide) (fun hc1 => ?_) (fun i2 t3 q4 hc1 => ?_)
  · skip
    refine dk_iconst (pc' := 35) hE dX2_lineOf_34 (by decide) rfl ?_
    exact dk_iret (st := []) hE hR dX2_lineOf_35 ⟨_, rfl, (fun k_ j_ h_ => rfl), by omega⟩
  · have i2l : i2 < 3 := (List.getElem?_eq_some_iff.mp q4).1
    rcases (show i2 = 0 ∨ i2 = 1 ∨ i2 = 2 by omega) with rfl | rfl | rfl
    · cases q4
      refine dk_iconst (pc' := 29) hE dX2_lineOf_28 (by decide) rfl ?_
      exact dk_iret (st := []) hE hR dX2_lineOf_29 ⟨_, rfl, (fun k_ j_ h_ => rfl), by omega⟩
    · cases q4
      refine dk_iconst (pc' := 33) hE dX2_lineOf_32 (by decide) rfl ?_
      exact dk_iret (st := []) hE hR dX2_lineOf_33 ⟨_, rfl, (fun k_ j_ h_ => rfl), by omega⟩
    · cases q4
      refine dk_iconst (pc' := 31) hE dX2_lineOf_30 (by decide) rfl ?_
      exact dk_iret (st := []) hE hR dX2_lineOf_31 ⟨_, rfl, (fun k_ j_ h_ => rfl), by omega⟩
set_option maxHeartbeats 4000000 in
set_option maxRecDepth 20000 in
theorem ct_X2_rankOf (l : Launch) (G : dkG) (hGd : dk_Gd G) (a : Int) : dk_Ct l G dk_Ty yX2_rankOf cX2_rankOf 1 (some .int) 1 190 190 (fun av σ => av = [(0, a)]) (fun _ σ r_ σ' => ∃ z : Int, r_ = some (0, z) ∧ (∀ k_ j_ : Int, ¬ (False) → σ' k_ j_ = σ k_ j_) ∧ (-1 ≤ z ∧ z ≤ 6)) := by
  refine dk_enter hGd (by decide) (fun av σ hpre hok => ?_)
  subst hpre
  refine ⟨Nat.le_of_ble_eq_true rfl, fun E hE hR _ => ?_⟩
  have hi_a : dk_i32 a := dk_oki (hok _ (by simp))
  show dk_PJ E 0 [(0, a)] [] 190 σ
  refine dk_iload_n (pc' := 1) hE dX2_rankOf_0 rfl rfl rfl ?_
  by_cases hc1_0 : a = 14
  · refine dk_lookup (tgt := 86) hE dX2_rankOf_1 (by decide) (off := 85) (by rw [hc1_0]; decide) (by decide) ?_
    refine dk_iconst (pc' := 87) hE dX2_rankOf_86 (by decide) rfl ?_
    exact dk_iret (st := []) hE hR dX2_rankOf_87 ⟨_, rfl, (fun k_ j_ h_ => rfl), by omega⟩
  by_cases hc1_1 : a = 15
  · refine dk_lookup (tgt := 84) hE dX2_rankOf_1 (by decide) (off := 83) (by rw [hc1_1]; decide) (by decide) ?_
    refine dk_iconst (pc' := 85) hE dX2_rankOf_84 (by decide) rfl ?_
    exact dk_iret (st := []) hE hR dX2_rankOf_85 ⟨_, rfl, (fun k_ j_ h_ => rfl), by omega⟩
  by_cases hc1_2 : a = 16
  · refine dk_lookup (tgt := 88) hE dX2_rankOf_1 (by decide) (off := 87) (by rw [hc1_2]; decide) (by decide) ?_
    refine dk_iconst (pc' := 89) hE dX2_rankOf_88 (by decide) rfl ?_
    exact dk_iret (st := []) hE hR dX2_rankOf_89 ⟨_, rfl, (fun k_ j_ h_ => rfl), by omega⟩
  by_cases hc1_3 : a = 42
  · refine dk_lookup (tgt := 94) hE dX2_rankOf_1 (by decide) (off := 93) (by rw [hc1_3]; decide) (by decide) ?_
    refine dk_bipush (pc' := 96) hE dX2_rankOf_94 (by decide) rfl ?_
    exact dk_iret (st := []) hE hR dX2_rankOf_96 ⟨_, rfl, (fun k_ j_ h_ => rfl), by omega⟩
  by_cases hc1_4 : a = 43
  · refine dk_lookup (tgt := 92) hE dX2_rankOf_1 (by decide) (off := 91) (by rw [hc1_4]; decide) (by decide) ?_
    refine dk_iconst (pc' := 93) hE dX2_rankOf_92 (by decide) rfl ?_
    exact dk_iret (st := []) hE hR dX2_rankOf_93 ⟨_, rfl, (fun k_ j_ h_ => rfl), by omega⟩
  by_cases hc1_5 : a = 45
  · refine dk_lookup (tgt := 92) hE dX2_rankOf_1 (by decide) (off := 91) (by rw [hc1_5]; decide) (by decide) ?_
    refine dk_iconst (pc' := 93) hE dX2_rankOf_92 (by decide) rfl ?_
    exact dk_iret (st := []) hE hR dX2_rankOf_93 ⟨_, rfl, (fun k_ j_ h_ => rfl), by omega⟩
  by_cases hc1_6 : a = 60
  · refine dk_lookup (tgt := 90) hE dX2_rankOf_1 (by decide) (off := 89) (by rw [hc1_6]; decide) (by decide) ?_
    refine dk_iconst (pc' := 91) hE dX2_rankOf_90 (by decide) rfl ?_
    exact dk_iret (st := []) hE hR dX2_rankOf_91 ⟨_, rfl, (fun k_ j_ h_ => rfl), by omega⟩
  by_cases hc1_7 : a = 61
  · refine dk_lookup (tgt := 90) hE dX2_rankOf_1 (by decide) (off := 89) (by rw [hc1_7]; decide) (by decide) ?_
    refine dk_iconst (pc' := 91) hE dX2_rankOf_90 (by decide) rfl ?_
    exact dk_iret (st := []) hE hR dX2_rankOf_91 ⟨_, rfl, (fun k_ j_ h_ => rfl), by omega⟩
  by_cases hc1_8 : a = 62
  · refine dk_lookup (tgt := 90) hE dX2_rankOf_1 (by decide) (off := 89) (by rw [hc1_8]; decide) (by decide) ?_
    refine dk_iconst (pc' := 91) hE dX2_rankOf_90 (by decide) rfl ?_
    exact dk_iret (st := []) hE hR dX2_rankOf_91 ⟨_, rfl, (fun k_ j_ h_ => rfl), by omega⟩
  refine dk_lookup (tgt := 97) hE dX2_rankOf_1 (by decide) (off := 96) (by simp [dk_sw, hc1_0, hc1_1, hc1_2, hc1_3, hc1_4, hc1_5, hc1_6, hc1_7, hc1_8]) (by decide) ?_
  refine dk_iconst (pc' := 98) hE dX2_rankOf_97 (by decide) rfl ?_
  exact dk_iret (st := []) hE hR dX2_rankOf_98 ⟨_, rfl, (fun k_ j_ h_ => rfl), by omega⟩
set_option maxHeartbeats 4000000 in
set_option maxRecDepth 20000 in
theorem ct_X2_refuse (l : Launch) (G : dkG) (hGd : dk_Gd G) : dk_Ct l G dk_Ty yX2_refuse cX2_refuse 1 (some .boolean) 1 190 190 (fun av σ => av = [(4, 10)]) (fun _ σ r_ σ' => ∃ z : Int, r_ = some (0, z) ∧ (∀ k_ j_ : Int, ¬ (k_ = 6 ∨ (k_ = 10 ∧ j_ = 2) ∨ (k_ = 10 ∧ j_ = 3) ∨ (k_ = 10 ∧ j_ = 4) ∨ (k_ = 10 ∧ j_ = 6) ∨ (k_ = 10 ∧ j_ = 7) ∨ k_ = 11 ∨ (13 ≤ k_ ∧ k_ ≤ 36)) → σ' k_ j_ = σ k_ j_) ∧ (0 ≤ z ∧ z ≤ 1)) := by
  refine dk_enter hGd (by decide) (fun av σ hpre hok => ?_)
  subst hpre
  refine ⟨Nat.le_of_ble_eq_true rfl, fun E hE hR _ => ?_⟩
  show dk_PJ E 0 [(4, 10)] [] 190 σ
  refine dk_aload_n (pc' := 1) hE dX2_refuse_0 rfl rfl rfl ?_
  refine dk_aload_n (pc' := 2) hE dX2_refuse_1 rfl rfl rfl ?_
  refine gf_2_0 (pc' := 5) (w := 6) hE fl_X2_15 dX2_refuse_2 is_10 rfl rfl ?_
  refine gf_9_3 (pc' := 8) hE fl_X2_43 dX2_refuse_5 is_6 rfl (fun v1 hv1 htv1 hbv1 => ?_)
  refine dk_iconst (pc' := 9) hE dX2_refuse_8 (by decide) rfl ?_
  refine dk_icmp_ne (tgt := 16) (pc' := 12) hE dX2_refuse_9 (by decide) rfl (fun hc2 => ?_) (fun hc2 => ?_)
  · skip
    refine dk_iconst (pc' := 17) hE dX2_refuse_16 (by decide) rfl ?_
    refine pf_2_6 (pc' := 20) hE fl_X2_32 dX2_refuse_17 is_10 trivial rfl (fun σ3 eσ3 => ?_)
    refine dk_aload_n (pc' := 21) hE dX2_refuse_20 rfl rfl rfl ?_
    refine dk_aload_n (pc' := 22) hE dX2_refuse_21 rfl rfl rfl ?_
    refine gf_2_0 (pc' := 25) (w := 6) hE fl_X2_15 dX2_refuse_22 is_10 rfl rfl ?_
    refine gf_9_4 (pc' := 28) hE fl_X2_118 dX2_refuse_25 is_6 rfl (fun v4 hv4 htv4 hbv4 => ?_)
    refine pf_2_7 (pc' := 31) hE fl_X2_35 dX2_refuse_28 is_10 trivial rfl (fun σ5 eσ5 => ?_)
    refine dk_iconst (pc' := 32) hE dX2_refuse_31 (by decide) rfl ?_
    exact dk_zret (st := []) hE hR dX2_refuse_32 (by omega) ⟨_, rfl, (fun k_ j_ h_ => by rw [eσ5, dk_up_n (show ¬ (k_ = 10 ∧ j_ = 7) from fun q_ => h_ (Or.inr (Or.inr (Or.inr (Or.inr (Or.inr (Or.inl (q_)))))))), eσ3, dk_up_n (show ¬ (k_ = 10 ∧ j_ = 6) from fun q_ => h_ (Or.inr (Or.inr (Or.inr (Or.inr (Or.inl (q_)))))))]), by omega⟩
  · skip
    refine dk_iconst (pc' := 13) hE dX2_refuse_12 (by decide) rfl ?_
    refine dk_goto (tgt := 17) hE dX2_refuse_13 (by decide) ?_
    refine pf_2_6 (pc' := 20) hE fl_X2_32 dX2_refuse_17 is_10 trivial rfl (fun σ6 eσ6 => ?_)
    refine dk_aload_n (pc' := 21) hE dX2_refuse_20 rfl rfl rfl ?_
    refine dk_aload_n (pc' := 22) hE dX2_refuse_21 rfl rfl rfl ?_
    refine gf_2_0 (pc' := 25) (w := 6) hE fl_X2_15 dX2_refuse_22 is_10 rfl rfl ?_
    refine gf_9_4 (pc' := 28) hE fl_X2_118 dX2_refuse_25 is_6 rfl (fun v7 hv7 htv7 hbv7 => ?_)
    refine pf_2_7 (pc' := 31) hE fl_X2_35 dX2_refuse_28 is_10 trivial rfl (fun σ8 eσ8 => ?_)
    refine dk_iconst (pc' := 32) hE dX2_refuse_31 (by decide) rfl ?_
    exact dk_zret (st := []) hE hR dX2_refuse_32 (by omega) ⟨_, rfl, (fun k_ j_ h_ => by rw [eσ8, dk_up_n (show ¬ (k_ = 10 ∧ j_ = 7) from fun q_ => h_ (Or.inr (Or.inr (Or.inr (Or.inr (Or.inr (Or.inl (q_)))))))), eσ6, dk_up_n (show ¬ (k_ = 10 ∧ j_ = 6) from fun q_ => h_ (Or.inr (Or.inr (Or.inr (Or.inr (Or.inl (q_)))))))]), by omega⟩
set_option maxHeartbeats 4000000 in
set_option maxRecDepth 20000 in
theorem ct_X2_push (l : Launch) (G : dkG) (hGd : dk_Gd G) (k : Int) : dk_Ct l G dk_Ty yX2_push cX2_push 2 (some .boolean) 1 190 190 (fun av σ => av = [(4, 10), (0, k)] ∧ (0 ≤ k ∧ k ≤ 127)) (fun _ σ r_ σ' => ∃ z : Int, r_ = some (0, z) ∧ (∀ k_ j_ : Int, ¬ ((k_ = 10 ∧ j_ = 2) ∨ k_ = 11) → σ' k_ j_ = σ k_ j_) ∧ (0 ≤ z ∧ z ≤ 1)) := by
  refine dk_enter hGd (by decide) (fun av σ hpre hok => ?_)
  obtain ⟨rfl, hk⟩ := hpre
  refine ⟨Nat.le_of_ble_eq_true rfl, fun E hE hR _ => ?_⟩
  have hi_k : dk_i32 k := dk_oki (hok _ (by simp))
  show dk_PJ E 0 [(4, 10), (0, k)] [] 190 σ
  refine dk_aload_n (pc' := 1) hE dX2_push_0 rfl rfl rfl ?_
  refine gf_2_2 (pc' := 4) hE fl_X2_74 dX2_push_1 is_10 rfl (fun v1 hv1 htv1 hbv1 => ?_)
  refine dk_aload_n (pc' := 5) hE dX2_push_4 rfl rfl rfl ?_
  refine gf_2_1 (pc' := 8) (w := 11) hE fl_X2_11 dX2_push_5 is_10 rfl rfl ?_
  refine dk_alen (pc' := 9) hE dX2_push_8 is_11 rfl (w := 48) rfl (by decide) rfl ?_
  refine dk_icmp_lt (tgt := 14) (pc' := 12) hE dX2_push_9 (by decide) rfl (fun hc2 => ?_) (fun hc2 => ?_)
  · skip
    refine dk_aload_n (pc' := 15) hE dX2_push_14 rfl rfl rfl ?_
    refine gf_2_1 (pc' := 18) (w := 11) hE fl_X2_11 dX2_push_15 is_10 rfl rfl ?_
    refine dk_aload_n (pc' := 19) hE dX2_push_18 rfl rfl rfl ?_
    refine gf_2_2 (pc' := 22) hE fl_X2_74 dX2_push_19 is_10 rfl (fun v3 hv3 htv3 hbv3 => ?_)
    have hq3 : v1 = v3 := (show v3 = v1 by rw [hv3, hv1]).symm
    subst hq3
    clear htv3 hbv3
    refine dk_iload_n (pc' := 23) hE dX2_push_22 rfl rfl rfl ?_
    refine pa_25 (pc' := 24) hE dX2_push_23 is_11 (by omega) (by omega) rfl (fun σ4 eσ4 => ?_)
    refine dk_aload_n (pc' := 25) hE dX2_push_24 rfl rfl rfl ?_
    refine dk_dup (pc' := 26) hE dX2_push_25 (show (4 : Nat) ≠ 3 by decide) rfl ?_
    refine gf_2_2 (pc' := 29) hE fl_X2_74 dX2_push_26 is_10 rfl (fun v5 hv5 htv5 hbv5 => ?_)
    have hq5 : v1 = v5 := (show v5 = v1 by rw [hv5, eσ4, dk_up_n (show ¬ (10 = 11 ∧ 2 = v1) by omega), hv3]).symm
    subst hq5
    clear htv5 hbv5
    refine dk_iconst (pc' := 30) hE dX2_push_29 (by decide) rfl ?_
    obtain ⟨v6, hv6⟩ : ∃ z : Int, z = v1 + 1 := ⟨_, rfl⟩
    refine dk_iadd (pc' := 31) hE dX2_push_30 hv6.symm (by omega) rfl ?_
    refine pf_2_2 (pc' := 34) hE fl_X2_74 dX2_push_31 is_10 (by omega) rfl (fun σ7 eσ7 => ?_)
    refine dk_iconst (pc' := 35) hE dX2_push_34 (by decide) rfl ?_
    exact dk_zret (st := []) hE hR dX2_push_35 (by omega) ⟨_, rfl, (fun k_ j_ h_ => by rw [eσ7, dk_up_n (show ¬ (k_ = 10 ∧ j_ = 2) from fun q_ => h_ (Or.inl (q_))), eσ4, dk_up_n (show ¬ (k_ = 11 ∧ j_ = v1) from fun q_ => h_ (Or.inr (q_.1)))]), by omega⟩
  · skip
    refine dk_iconst (pc' := 13) hE dX2_push_12 (by decide) rfl ?_
    exact dk_zret (st := []) hE hR dX2_push_13 (by omega) ⟨_, rfl, (fun k_ j_ h_ => rfl), by omega⟩
set_option maxHeartbeats 4000000 in
set_option maxRecDepth 20000 in
theorem ct_X2_enter (l : Launch) (G : dkG) (hGd : dk_Gd G) (k : Int) : dk_Ct l G dk_Ty yX2_enter cX2_enter 2 (some .boolean) 2 190 190 (fun av σ => av = [(4, 10), (0, k)] ∧ (0 ≤ k ∧ k ≤ 127)) (fun _ σ r_ σ' => ∃ z : Int, r_ = some (0, z) ∧ (∀ k_ j_ : Int, ¬ (k_ = 6 ∨ (k_ = 10 ∧ j_ = 2) ∨ (k_ = 10 ∧ j_ = 3) ∨ (k_ = 10 ∧ j_ = 4) ∨ (k_ = 10 ∧ j_ = 6) ∨ (k_ = 10 ∧ j_ = 7) ∨ k_ = 11 ∨ (13 ≤ k_ ∧ k_ ≤ 36)) → σ' k_ j_ = σ k_ j_) ∧ (0 ≤ z ∧ z ≤ 1)) := by
  refine dk_enter hGd (by decide) (fun av σ hpre hok => ?_)
  obtain ⟨rfl, hk⟩ := hpre
  refine ⟨Nat.le_of_ble_eq_true rfl, fun E hE hR _ => ?_⟩
  have hi_k : dk_i32 k := dk_oki (hok _ (by simp))
  show dk_PJ E 0 [(4, 10), (0, k)] [] 190 σ
  refine dk_aload_n (pc' := 1) hE dX2_enter_0 rfl rfl rfl ?_
  refine gf_2_3 (pc' := 4) hE fl_X2_77 dX2_enter_1 is_10 rfl (fun v1 hv1 htv1 hbv1 => ?_)
  refine dk_bipush (pc' := 6) hE dX2_enter_4 (by decide) rfl ?_
  refine dk_icmp_ge (tgt := 17) (pc' := 9) hE dX2_enter_6 (by decide) rfl (fun hc2 => ?_) (fun hc2 => ?_)
  · skip
    refine dk_iconst (pc' := 18) hE dX2_enter_17 (by decide) rfl ?_
    exact dk_zret (st := []) hE hR dX2_enter_18 (by omega) ⟨_, rfl, (fun k_ j_ h_ => rfl), by omega⟩
  · skip
    refine dk_aload_n (pc' := 10) hE dX2_enter_9 rfl rfl rfl ?_
    refine dk_iload_n (pc' := 11) hE dX2_enter_10 rfl rfl rfl ?_
    refine dk_cV (pc' := 14) (as := [(0, k)]) hE lk_X2_115 (ct_X2_push l G hGd k) dX2_enter_11 rfl is_10 rfl (by decide) (Nat.le_of_ble_eq_true rfl) ⟨rfl, (by omega)⟩ rfl (fun r4 σ3 hr4 _ => ?_)
    obtain ⟨v5, rfl, hfσ3, hpr4⟩ := hr4
    refine dk_if_ne (tgt := 19) (pc' := 17) hE dX2_enter_14 (by decide) rfl (fun hc6 => ?_) (fun hc6 => ?_)
    · skip
      refine dk_aload_n (pc' := 20) hE dX2_enter_19 rfl rfl rfl ?_
      refine dk_dup (pc' := 21) hE dX2_enter_20 (show (4 : Nat) ≠ 3 by decide) rfl ?_
      refine gf_2_3 (pc' := 24) hE fl_X2_77 dX2_enter_21 is_10 rfl (fun v7 hv7 htv7 hbv7 => ?_)
      have hq7 : v1 = v7 := (show v7 = v1 by rw [hv7, hfσ3 10 3 (by omega), hv1]).symm
      subst hq7
      clear htv7 hbv7
      refine dk_iconst (pc' := 25) hE dX2_enter_24 (by decide) rfl ?_
      obtain ⟨v8, hv8⟩ : ∃ z : Int, z = v1 + 1 := ⟨_, rfl⟩
      refine dk_iadd (pc' := 26) hE dX2_enter_25 hv8.symm (by omega) rfl ?_
      refine pf_2_3 (pc' := 29) hE fl_X2_77 dX2_enter_26 is_10 trivial rfl (fun σ9 eσ9 => ?_)
      refine dk_iconst (pc' := 30) hE dX2_enter_29 (by decide) rfl ?_
      exact dk_zret (st := []) hE hR dX2_enter_30 (by omega) ⟨_, rfl, (fun k_ j_ h_ => by rw [eσ9, dk_up_n (show ¬ (k_ = 10 ∧ j_ = 3) from fun q_ => h_ (Or.inr (Or.inr (Or.inl (q_))))), hfσ3 k_ j_ (fun w_ => h_ (w_.elim (fun x0_ => Or.inr (Or.inl (x0_))) (fun y0_ => Or.inr (Or.inr (Or.inr (Or.inr (Or.inr (Or.inr (Or.inl (y0_))))))))))]), by omega⟩
    · skip
      refine dk_iconst (pc' := 18) hE dX2_enter_17 (by decide) rfl ?_
      exact dk_zret (st := []) hE hR dX2_enter_18 (by omega) ⟨_, rfl, (fun k_ j_ h_ => by rw [hfσ3 k_ j_ (fun w_ => h_ (w_.elim (fun x0_ => Or.inr (Or.inl (x0_))) (fun y0_ => Or.inr (Or.inr (Or.inr (Or.inr (Or.inr (Or.inr (Or.inl (y0_))))))))))]), by omega⟩
set_option maxHeartbeats 4000000 in
set_option maxRecDepth 20000 in
theorem ct_X2_leaveBracket (l : Launch) (G : dkG) (hGd : dk_Gd G) : dk_Ct l G dk_Ty yX2_leaveBracket cX2_leaveBracket 1 (some .boolean) 1 190 190 (fun av σ => av = [(4, 10)]) (fun _ σ r_ σ' => ∃ z : Int, r_ = some (0, z) ∧ (∀ k_ j_ : Int, ¬ (k_ = 6 ∨ (k_ = 10 ∧ j_ = 2) ∨ (k_ = 10 ∧ j_ = 3) ∨ (k_ = 10 ∧ j_ = 4) ∨ (k_ = 10 ∧ j_ = 6) ∨ (k_ = 10 ∧ j_ = 7) ∨ k_ = 11 ∨ (13 ≤ k_ ∧ k_ ≤ 36)) → σ' k_ j_ = σ k_ j_) ∧ (0 ≤ z ∧ z ≤ 1)) := by
  refine dk_enter hGd (by decide) (fun av σ hpre hok => ?_)
  subst hpre
  refine ⟨Nat.le_of_ble_eq_true rfl, fun E hE hR _ => ?_⟩
  show dk_PJ E 0 [(4, 10)] [] 190 σ
  refine dk_aload_n (pc' := 1) hE dX2_leaveBracket_0 rfl rfl rfl ?_
  refine gf_2_2 (pc' := 4) hE fl_X2_74 dX2_leaveBracket_1 is_10 rfl (fun v1 hv1 htv1 hbv1 => ?_)
  refine dk_if_ne (tgt := 9) (pc' := 7) hE dX2_leaveBracket_4 (by decide) rfl (fun hc2 => ?_) (fun hc2 => ?_)
  · skip
    refine dk_aload_n (pc' := 10) hE dX2_leaveBracket_9 rfl rfl rfl ?_
    refine dk_dup (pc' := 11) hE dX2_leaveBracket_10 (show (4 : Nat) ≠ 3 by decide) rfl ?_
    refine gf_2_2 (pc' := 14) hE fl_X2_74 dX2_leaveBracket_11 is_10 rfl (fun v3 hv3 htv3 hbv3 => ?_)
    have hq3 : v1 = v3 := (show v3 = v1 by rw [hv3, hv1]).symm
    subst hq3
    clear htv3 hbv3
    refine dk_iconst (pc' := 15) hE dX2_leaveBracket_14 (by decide) rfl ?_
    obtain ⟨v4, hv4⟩ : ∃ z : Int, z = v1 - 1 := ⟨_, rfl⟩
    refine dk_isub (pc' := 16) hE dX2_leaveBracket_15 hv4.symm (by omega) rfl ?_
    refine pf_2_2 (pc' := 19) hE fl_X2_74 dX2_leaveBracket_16 is_10 (by omega) rfl (fun σ5 eσ5 => ?_)
    refine dk_aload_n (pc' := 20) hE dX2_leaveBracket_19 rfl rfl rfl ?_
    refine dk_dup (pc' := 21) hE dX2_leaveBracket_20 (show (4 : Nat) ≠ 3 by decide) rfl ?_
    refine gf_2_3 (pc' := 24) hE fl_X2_77 dX2_leaveBracket_21 is_10 rfl (fun v6 hv6 htv6 hbv6 => ?_)
    refine dk_iconst (pc' := 25) hE dX2_leaveBracket_24 (by decide) rfl ?_
    refine dk_isubW (pc' := 26) hE dX2_leaveBracket_25 rfl (fun v7 hv7 _ => ?_)
    refine pf_2_3 (pc' := 29) hE fl_X2_77 dX2_leaveBracket_26 is_10 trivial rfl (fun σ8 eσ8 => ?_)
    refine dk_iconst (pc' := 30) hE dX2_leaveBracket_29 (by decide) rfl ?_
    exact dk_zret (st := []) hE hR dX2_leaveBracket_30 (by omega) ⟨_, rfl, (fun k_ j_ h_ => by rw [eσ8, dk_up_n (show ¬ (k_ = 10 ∧ j_ = 3) from fun q_ => h_ (Or.inr (Or.inr (Or.inl (q_))))), eσ5, dk_up_n (show ¬ (k_ = 10 ∧ j_ = 2) from fun q_ => h_ (Or.inr (Or.inl (q_))))]), by omega⟩
  · skip
    refine dk_iconst (pc' := 8) hE dX2_leaveBracket_7 (by decide) rfl ?_
    exact dk_zret (st := []) hE hR dX2_leaveBracket_8 (by omega) ⟨_, rfl, (fun k_ j_ h_ => rfl), by omega⟩
set_option maxHeartbeats 4000000 in
set_option maxRecDepth 20000 in
theorem ct_X2_release (l : Launch) (G : dkG) (hGd : dk_Gd G) (a : Int) : dk_Ct l G dk_Ty yX2_release cX2_release 2 (none) 2 190 190 (fun av σ => av = [(4, 10), (0, a)] ∧ (13 ≤ σ 10 5 ∧ σ 10 5 ≤ 33 ∧ (σ 10 5 - 13) % 4 = 0)) (fun _ σ r_ σ' => r_ = none ∧ (∀ k_ j_ : Int, ¬ (k_ = 6 ∨ (k_ = 10 ∧ j_ = 2) ∨ (k_ = 10 ∧ j_ = 3) ∨ (k_ = 10 ∧ j_ = 4) ∨ (k_ = 10 ∧ j_ = 6) ∨ (k_ = 10 ∧ j_ = 7) ∨ k_ = 11 ∨ (13 ≤ k_ ∧ k_ ≤ 36)) → σ' k_ j_ = σ k_ j_) ∧ (True)) := by
  refine dk_enter hGd (by decide) (fun av σ hpre hok => ?_)
  obtain ⟨rfl, hru⟩ := hpre
  refine ⟨Nat.le_of_ble_eq_true rfl, fun E hE hR _ => ?_⟩
  have hi_a : dk_i32 a := dk_oki (hok _ (by simp))
  show dk_PJ E 0 [(4, 10), (0, a)] [] 190 σ
  have lp0 : ∀ (N_ : Nat) (σ0c : dkS), (σ0c 10 2 + 1).toNat < N_ → ((∀ k_ j_ : Int, ¬ (k_ = 6 ∨ (k_ = 10 ∧ j_ = 2) ∨ (k_ = 10 ∧ j_ = 3) ∨ (k_ = 10 ∧ j_ = 4) ∨ (k_ = 10 ∧ j_ = 6) ∨ (k_ = 10 ∧ j_ = 7) ∨ k_ = 11 ∨ (13 ≤ k_ ∧ k_ ≤ 36)) → σ0c k_ j_ = σ k_ j_)) → dk_PJ E 0 [(4, 10), (0, a)] [] 190 σ0c := by
    intro N0
    induction N0 with
    | zero => intro  σ0c hm; exact absurd hm (Nat.not_lt_zero _)
    | succ N0 ih0 =>
      intro  σ0c hm0 hF0 
      refine dk_aload_n (pc' := 1) hE dX2_release_0 rfl rfl rfl ?_
      refine gf_2_2 (pc' := 4) hE fl_X2_74 dX2_release_1 is_10 rfl (fun v1 hv1 htv1 hbv1 => ?_)
      refine dk_if_le (tgt := 82) (pc' := 7) hE dX2_release_4 (by decide) rfl (fun hc2 => ?_) (fun hc2 => ?_)
      · skip
        exact dk_vret (st := []) hE hR dX2_release_82 ⟨rfl, (fun k_ j_ h_ => by rw [hF0 k_ j_ (fun w_ => h_ (w_.elim (fun x0_ => Or.inl (x0_)) (fun y0_ => y0_.elim (fun x1_ => Or.inr (Or.inl (x1_))) (fun y1_ => y1_.elim (fun x2_ => Or.inr (Or.inr (Or.inl (x2_)))) (fun y2_ => y2_.elim (fun x3_ => Or.inr (Or.inr (Or.inr (Or.inl (x3_))))) (fun y3_ => y3_.elim (fun x4_ => Or.inr (Or.inr (Or.inr (Or.inr (Or.inl (x4_)))))) (fun y4_ => y4_.elim (fun x5_ => Or.inr (Or.inr (Or.inr (Or.inr (Or.inr (Or.inl (x5_))))))) (fun y5_ => y5_.elim (fun x6_ => Or.inr (Or.inr (Or.inr (Or.inr (Or.inr (Or.inr (Or.inl (x6_)))))))) (fun y6_ => Or.inr (Or.inr (Or.inr (Or.inr (Or.inr (Or.inr (Or.inr (y6_))))))))))))))))]), trivial⟩
      · skip
        refine dk_aload_n (pc' := 8) hE dX2_release_7 rfl rfl rfl ?_
        refine gf_2_1 (pc' := 11) (w := 11) hE fl_X2_11 dX2_release_8 is_10 rfl rfl ?_
        refine dk_aload_n (pc' := 12) hE dX2_release_11 rfl rfl rfl ?_
        refine gf_2_2 (pc' := 15) hE fl_X2_74 dX2_release_12 is_10 rfl (fun v3 hv3 htv3 hbv3 => ?_)
        have hq3 : v1 = v3 := (show v3 = v1 by rw [hv3, hv1]).symm
        subst hq3
        clear htv3 hbv3
        refine dk_iconst (pc' := 16) hE dX2_release_15 (by decide) rfl ?_
        obtain ⟨v4, hv4⟩ : ∃ z : Int, z = v1 - 1 := ⟨_, rfl⟩
        refine dk_isub (pc' := 17) hE dX2_release_16 hv4.symm (by omega) rfl ?_
        refine ga_25 (pc' := 18) hE dX2_release_17 is_11 (by omega) rfl (fun v5 hv5 htv5 hbv5 => ?_)
        refine dk_cS (pc' := 21) (as := [(0, v5)]) hE lk_X2_112 (ct_X2_rankOf l G hGd v5) dX2_release_18 rfl rfl (by decide) (Nat.le_of_ble_eq_true rfl) rfl rfl (fun r7 σ6 hr7 _ => ?_)
        obtain ⟨v8, rfl, hfσ6, hpr7⟩ := hr7
        have hsσ6 : σ0c = σ6 := (funext (fun k => funext (fun j => hfσ6 k j not_false))).symm
        subst hsσ6
        refine dk_iload_n (pc' := 22) hE dX2_release_21 rfl rfl rfl ?_
        refine dk_icmp_lt (tgt := 82) (pc' := 25) hE dX2_release_22 (by decide) rfl (fun hc9 => ?_) (fun hc9 => ?_)
        · skip
          exact dk_vret (st := []) hE hR dX2_release_82 ⟨rfl, (fun k_ j_ h_ => by rw [hF0 k_ j_ (fun w_ => h_ (w_.elim (fun x0_ => Or.inl (x0_)) (fun y0_ => y0_.elim (fun x1_ => Or.inr (Or.inl (x1_))) (fun y1_ => y1_.elim (fun x2_ => Or.inr (Or.inr (Or.inl (x2_)))) (fun y2_ => y2_.elim (fun x3_ => Or.inr (Or.inr (Or.inr (Or.inl (x3_))))) (fun y3_ => y3_.elim (fun x4_ => Or.inr (Or.inr (Or.inr (Or.inr (Or.inl (x4_)))))) (fun y4_ => y4_.elim (fun x5_ => Or.inr (Or.inr (Or.inr (Or.inr (Or.inr (Or.inl (x5_))))))) (fun y5_ => y5_.elim (fun x6_ => Or.inr (Or.inr (Or.inr (Or.inr (Or.inr (Or.inr (Or.inl (x6_)))))))) (fun y6_ => Or.inr (Or.inr (Or.inr (Or.inr (Or.inr (Or.inr (Or.inr (y6_))))))))))))))))]), trivial⟩
        · skip
          refine dk_aload_n (pc' := 26) hE dX2_release_25 rfl rfl rfl ?_
          refine dk_dup (pc' := 27) hE dX2_release_26 (show (4 : Nat) ≠ 3 by decide) rfl ?_
          refine gf_2_2 (pc' := 30) hE fl_X2_74 dX2_release_27 is_10 rfl (fun v10 hv10 htv10 hbv10 => ?_)
          have hq10 : v1 = v10 := (show v10 = v1 by rw [hv10, hv3]).symm
          subst hq10
          clear htv10 hbv10
          refine dk_iconst (pc' := 31) hE dX2_release_30 (by decide) rfl ?_
          obtain ⟨v11, hv11⟩ : ∃ z : Int, z = v1 - 1 := ⟨_, rfl⟩
          refine dk_isub (pc' := 32) hE dX2_release_31 hv11.symm (by omega) rfl ?_
          refine pf_2_2 (pc' := 35) hE fl_X2_74 dX2_release_32 is_10 (by omega) rfl (fun σ12 eσ12 => ?_)
          refine dk_aload_n (pc' := 36) hE dX2_release_35 rfl rfl rfl ?_
          refine gf_2_1 (pc' := 39) (w := 11) hE fl_X2_11 dX2_release_36 is_10 rfl rfl ?_
          refine dk_aload_n (pc' := 40) hE dX2_release_39 rfl rfl rfl ?_
          refine gf_2_2 (pc' := 43) hE fl_X2_74 dX2_release_40 is_10 rfl (fun v13 hv13 htv13 hbv13 => ?_)
          have hq13 : v11 = v13 := (show v13 = v11 by rw [hv13, eσ12, dk_up_s]).symm
          subst hq13
          clear htv13 hbv13
          refine ga_25 (pc' := 44) hE dX2_release_43 is_11 (by omega) rfl (fun v14 hv14 htv14 hbv14 => ?_)
          refine dk_bipush (pc' := 46) hE dX2_release_44 (by decide) rfl ?_
          refine dk_icmp_ne (tgt := 59) (pc' := 49) hE dX2_release_46 (by decide) rfl (fun hc15 => ?_) (fun hc15 => ?_)
          · skip
            refine dk_aload_n (pc' := 60) hE dX2_release_59 rfl rfl rfl ?_
            refine gf_2_5 (pc' := 63) hE fl_X2_19 dX2_release_60 is_10 rfl (fun v16 hv16 htv16 hbv16 => ?_)
            have hq16 : v16 = σ 10 5 := by rw [hv16, eσ12, dk_up_n (show ¬ (10 = 10 ∧ 5 = 2) by omega), hF0 10 5 (by omega)]
            refine dk_sipush (pc' := 66) hE dX2_release_63 (by decide) rfl ?_
            refine dk_aload_n (pc' := 67) hE dX2_release_66 rfl rfl rfl ?_
            refine gf_2_1 (pc' := 70) (w := 11) hE fl_X2_11 dX2_release_67 is_10 rfl rfl ?_
            refine dk_aload_n (pc' := 71) hE dX2_release_70 rfl rfl rfl ?_
            refine gf_2_2 (pc' := 74) hE fl_X2_74 dX2_release_71 is_10 rfl (fun v17 hv17 htv17 hbv17 => ?_)
            have hq17 : v11 = v17 := (show v17 = v11 by rw [hv17, hv13]).symm
            subst hq17
            clear htv17 hbv17
            refine ga_25 (pc' := 75) hE dX2_release_74 is_11 (by omega) rfl (fun v18 hv18 htv18 hbv18 => ?_)
            have hq18 : v14 = v18 := (show v18 = v14 by rw [hv18, hv14]).symm
            subst hq18
            clear htv18 hbv18
            obtain ⟨v19, hv19⟩ : ∃ z : Int, z = 20000 + v14 := ⟨_, rfl⟩
            refine dk_iadd (pc' := 76) hE dX2_release_75 hv19.symm (by omega) rfl ?_
            refine dk_cV (pc' := 79) (as := [(0, v19)]) hE lk_X2_95 (ct_X3_add l G hGd v16 v19) dX2_release_76 rfl (ru_is (by omega)) rfl (by decide) (Nat.le_of_ble_eq_true rfl) ⟨rfl, (by omega), (by omega)⟩ rfl (fun r21 σ20 hr21 _ => ?_)
            obtain ⟨rfl, hfσ20, hpr21⟩ := hr21
            refine dk_goto (tgt := 0) hE dX2_release_79 (by decide) ?_
            have hz21_10_2 : σ20 10 2 = v11 := by rw [hfσ20 10 2 (by omega), eσ12, dk_up_s]
            have hw23 : 13 ≤ v16 ∧ v16 ≤ 36 := by omega
            have hw24 : 13 ≤ v16 + 1 ∧ v16 + 1 ≤ 36 := by omega
            exact ih0 σ20 (by omega) (fun k_ j_ h_ => by rw [hfσ20 k_ j_ (fun w_ => h_ (w_.elim (fun x0_ => Or.inr (Or.inr (Or.inr (Or.inr (Or.inr (Or.inr (Or.inr (dk_wr x0_.1 hw23)))))))) (fun y0_ => Or.inr (Or.inr (Or.inr (Or.inr (Or.inr (Or.inr (Or.inr (dk_wr y0_ hw24)))))))))), eσ12, dk_up_n (show ¬ (k_ = 10 ∧ j_ = 2) from fun q_ => h_ (Or.inr (Or.inl (q_)))), hF0 k_ j_ (fun w_ => h_ (w_.elim (fun x0_ => Or.inl (x0_)) (fun y0_ => y0_.elim (fun x1_ => Or.inr (Or.inl (x1_))) (fun y1_ => y1_.elim (fun x2_ => Or.inr (Or.inr (Or.inl (x2_)))) (fun y2_ => y2_.elim (fun x3_ => Or.inr (Or.inr (Or.inr (Or.inl (x3_))))) (fun y3_ => y3_.elim (fun x4_ => Or.inr (Or.inr (Or.inr (Or.inr (Or.inl (x4_)))))) (fun y4_ => y4_.elim (fun x5_ => Or.inr (Or.inr (Or.inr (Or.inr (Or.inr (Or.inl (x5_))))))) (fun y5_ => y5_.elim (fun x6_ => Or.inr (Or.inr (Or.inr (Or.inr (Or.inr (Or.inr (Or.inl (x6_)))))))) (fun y6_ => Or.inr (Or.inr (Or.inr (Or.inr (Or.inr (Or.inr (Or.inr (y6_))))))))))))))))])
          · skip
            refine dk_aload_n (pc' := 50) hE dX2_release_49 rfl rfl rfl ?_
            refine dk_dup (pc' := 51) hE dX2_release_50 (show (4 : Nat) ≠ 3 by decide) rfl ?_
            refine gf_2_3 (pc' := 54) hE fl_X2_77 dX2_release_51 is_10 rfl (fun v25 hv25 htv25 hbv25 => ?_)
            refine dk_iconst (pc' := 55) hE dX2_release_54 (by decide) rfl ?_
            refine dk_isubW (pc' := 56) hE dX2_release_55 rfl (fun v26 hv26 _ => ?_)
            refine pf_2_3 (pc' := 59) hE fl_X2_77 dX2_release_56 is_10 trivial rfl (fun σ27 eσ27 => ?_)
            refine dk_aload_n (pc' := 60) hE dX2_release_59 rfl rfl rfl ?_
            refine gf_2_5 (pc' := 63) hE fl_X2_19 dX2_release_60 is_10 rfl (fun v28 hv28 htv28 hbv28 => ?_)
            have hq28 : v28 = σ 10 5 := by rw [hv28, eσ27, dk_up_n (show ¬ (10 = 10 ∧ 5 = 3) by omega), eσ12, dk_up_n (show ¬ (10 = 10 ∧ 5 = 2) by omega), hF0 10 5 (by omega)]
            refine dk_sipush (pc' := 66) hE dX2_release_63 (by decide) rfl ?_
            refine dk_aload_n (pc' := 67) hE dX2_release_66 rfl rfl rfl ?_
            refine gf_2_1 (pc' := 70) (w := 11) hE fl_X2_11 dX2_release_67 is_10 rfl rfl ?_
            refine dk_aload_n (pc' := 71) hE dX2_release_70 rfl rfl rfl ?_
            refine gf_2_2 (pc' := 74) hE fl_X2_74 dX2_release_71 is_10 rfl (fun v29 hv29 htv29 hbv29 => ?_)
            have hq29 : v11 = v29 := (show v29 = v11 by rw [hv29, eσ27, dk_up_n (show ¬ (10 = 10 ∧ 2 = 3) by omega), hv13]).symm
            subst hq29
            clear htv29 hbv29
            refine ga_25 (pc' := 75) hE dX2_release_74 is_11 (by omega) rfl (fun v30 hv30 htv30 hbv30 => ?_)
            have hq30 : v14 = v30 := (show v30 = v14 by rw [hv30, eσ27, dk_up_n (show ¬ (11 = 10 ∧ v11 = 3) by omega), hv14]).symm
            subst hq30
            clear htv30 hbv30
            obtain ⟨v31, hv31⟩ : ∃ z : Int, z = 20000 + v14 := ⟨_, rfl⟩
            refine dk_iadd (pc' := 76) hE dX2_release_75 hv31.symm (by omega) rfl ?_
            refine dk_cV (pc' := 79) (as := [(0, v31)]) hE lk_X2_95 (ct_X3_add l G hGd v28 v31) dX2_release_76 rfl (ru_is (by omega)) rfl (by decide) (Nat.le_of_ble_eq_true rfl) ⟨rfl, (by omega), (by omega)⟩ rfl (fun r33 σ32 hr33 _ => ?_)
            obtain ⟨rfl, hfσ32, hpr33⟩ := hr33
            refine dk_goto (tgt := 0) hE dX2_release_79 (by decide) ?_
            have hz33_10_2 : σ32 10 2 = v11 := by rw [hfσ32 10 2 (by omega), eσ27, dk_up_n (show ¬ (10 = 10 ∧ 2 = 3) by omega), eσ12, dk_up_s]
            have hw35 : 13 ≤ v28 ∧ v28 ≤ 36 := by omega
            have hw36 : 13 ≤ v28 + 1 ∧ v28 + 1 ≤ 36 := by omega
            exact ih0 σ32 (by omega) (fun k_ j_ h_ => by rw [hfσ32 k_ j_ (fun w_ => h_ (w_.elim (fun x0_ => Or.inr (Or.inr (Or.inr (Or.inr (Or.inr (Or.inr (Or.inr (dk_wr x0_.1 hw35)))))))) (fun y0_ => Or.inr (Or.inr (Or.inr (Or.inr (Or.inr (Or.inr (Or.inr (dk_wr y0_ hw36)))))))))), eσ27, dk_up_n (show ¬ (k_ = 10 ∧ j_ = 3) from fun q_ => h_ (Or.inr (Or.inr (Or.inl (q_))))), eσ12, dk_up_n (show ¬ (k_ = 10 ∧ j_ = 2) from fun q_ => h_ (Or.inr (Or.inl (q_)))), hF0 k_ j_ (fun w_ => h_ (w_.elim (fun x0_ => Or.inl (x0_)) (fun y0_ => y0_.elim (fun x1_ => Or.inr (Or.inl (x1_))) (fun y1_ => y1_.elim (fun x2_ => Or.inr (Or.inr (Or.inl (x2_)))) (fun y2_ => y2_.elim (fun x3_ => Or.inr (Or.inr (Or.inr (Or.inl (x3_))))) (fun y3_ => y3_.elim (fun x4_ => Or.inr (Or.inr (Or.inr (Or.inr (Or.inl (x4_)))))) (fun y4_ => y4_.elim (fun x5_ => Or.inr (Or.inr (Or.inr (Or.inr (Or.inr (Or.inl (x5_))))))) (fun y5_ => y5_.elim (fun x6_ => Or.inr (Or.inr (Or.inr (Or.inr (Or.inr (Or.inr (Or.inl (x6_)))))))) (fun y6_ => Or.inr (Or.inr (Or.inr (Or.inr (Or.inr (Or.inr (Or.inr (y6_))))))))))))))))])
  exact lp0 _ σ (Nat.lt_succ_self _) (fun k_ j_ h_ => rfl)
set_option maxHeartbeats 4000000 in
set_option maxRecDepth 20000 in
theorem ct_X2_codeOf (l : Launch) (G : dkG) (hGd : dk_Gd G) (k : Int) : dk_Ct l G dk_Ty yX2_codeOf cX2_codeOf 3 (some .int) 2 190 190 (fun av σ => av = [(4, 10), (0, k)] ∧ (0 ≤ k ∧ k ≤ 127)) (fun _ σ r_ σ' => ∃ z : Int, r_ = some (0, z) ∧ (∀ k_ j_ : Int, ¬ (False) → σ' k_ j_ = σ k_ j_) ∧ (z = -1 ∨ (0 ≤ z ∧ z ≤ 10009))) := by
  refine dk_enter hGd (by decide) (fun av σ hpre hok => ?_)
  obtain ⟨rfl, hk⟩ := hpre
  refine ⟨Nat.le_of_ble_eq_true rfl, fun E hE hR _ => ?_⟩
  have hi_k : dk_i32 k := dk_oki (hok _ (by simp))
  show dk_PJ E 0 [(4, 10), (0, k), (9, 0)] [] 190 σ
  refine dk_iload_n (pc' := 1) hE dX2_codeOf_0 rfl rfl rfl ?_
  refine dk_iconst (pc' := 2) hE dX2_codeOf_1 (by decide) rfl ?_
  refine dk_icmp_ne (tgt := 13) (pc' := 5) hE dX2_codeOf_2 (by decide) rfl (fun hc1 => ?_) (fun hc1 => ?_)
  · skip
    refine dk_iload_n (pc' := 14) hE dX2_codeOf_13 rfl rfl rfl ?_
    refine dk_cS (pc' := 17) (as := [(0, k)]) hE lk_X2_101 (ct_X6_variableOf l G hGd k) dX2_codeOf_14 rfl rfl (by decide) (Nat.le_of_ble_eq_true rfl) rfl rfl (fun r3 σ2 hr3 _ => ?_)
    obtain ⟨v4, rfl, hfσ2, hpr3⟩ := hr3
    have hsσ2 : σ = σ2 := (funext (fun k => funext (fun j => hfσ2 k j not_false))).symm
    subst hsσ2
    refine dk_istore_n (pc' := 18) (ls' := [(4, 10), (0, k), (0, v4)]) hE dX2_codeOf_17 rfl rfl (by decide) rfl ?_
    refine dk_iload_n (pc' := 19) hE dX2_codeOf_18 rfl rfl rfl ?_
    refine dk_iconst (pc' := 20) hE dX2_codeOf_19 (by decide) rfl ?_
    refine dk_icmp_ne (tgt := 27) (pc' := 23) hE dX2_codeOf_20 (by decide) rfl (fun hc5 => ?_) (fun hc5 => ?_)
    · skip
      refine dk_sipush (pc' := 30) hE dX2_codeOf_27 (by decide) rfl ?_
      refine dk_iload_n (pc' := 31) hE dX2_codeOf_30 rfl rfl rfl ?_
      obtain ⟨v6, hv6⟩ : ∃ z : Int, z = 10000 + v4 := ⟨_, rfl⟩
      refine dk_iadd (pc' := 32) hE dX2_codeOf_31 hv6.symm (by omega) rfl ?_
      exact dk_iret (st := []) hE hR dX2_codeOf_32 ⟨_, rfl, (fun k_ j_ h_ => rfl), by omega⟩
    · skip
      refine dk_iconst (pc' := 24) hE dX2_codeOf_23 (by decide) rfl ?_
      refine dk_goto (tgt := 32) hE dX2_codeOf_24 (by decide) ?_
      exact dk_iret (st := []) hE hR dX2_codeOf_32 ⟨_, rfl, (fun k_ j_ h_ => rfl), by omega⟩
  · skip
    refine dk_aload_n (pc' := 6) hE dX2_codeOf_5 rfl rfl rfl ?_
    refine gf_2_0 (pc' := 9) (w := 6) hE fl_X2_15 dX2_codeOf_6 is_10 rfl rfl ?_
    refine gf_9_6 (pc' := 12) hE fl_X2_98 dX2_codeOf_9 is_6 rfl (fun v7 hv7 htv7 hbv7 => ?_)
    exact dk_iret (st := []) hE hR dX2_codeOf_12 ⟨_, rfl, (fun k_ j_ h_ => rfl), by omega⟩
set_option maxHeartbeats 4000000 in
set_option maxRecDepth 20000 in
theorem ct_X2_beforeUnit (l : Launch) (G : dkG) (hGd : dk_Gd G) (k u : Int) : dk_Ct l G dk_Ty yX2_beforeUnit cX2_beforeUnit 4 (some .int) 3 190 190 (fun av σ => av = [(4, 10), (0, k), (0, u)] ∧ (13 ≤ σ 10 5 ∧ σ 10 5 ≤ 33 ∧ (σ 10 5 - 13) % 4 = 0) ∧ (0 ≤ k ∧ k ≤ 127)) (fun _ σ r_ σ' => ∃ z : Int, r_ = some (0, z) ∧ (∀ k_ j_ : Int, ¬ (k_ = 6 ∨ (k_ = 10 ∧ j_ = 2) ∨ (k_ = 10 ∧ j_ = 3) ∨ (k_ = 10 ∧ j_ = 4) ∨ (k_ = 10 ∧ j_ = 6) ∨ (k_ = 10 ∧ j_ = 7) ∨ k_ = 11 ∨ (13 ≤ k_ ∧ k_ ≤ 36)) → σ' k_ j_ = σ k_ j_) ∧ (0 ≤ z ∧ z ≤ 4)) := by
  refine dk_enter hGd (by decide) (fun av σ hpre hok => ?_)
  obtain ⟨rfl, hru, hk⟩ := hpre
  refine ⟨Nat.le_of_ble_eq_true rfl, fun E hE hR _ => ?_⟩
  have hi_k : dk_i32 k := dk_oki (hok _ (by simp))
  have hi_u : dk_i32 u := dk_oki (hok _ (by simp))
  show dk_PJ E 0 [(4, 10), (0, k), (0, u), (9, 0)] [] 190 σ
  refine dk_iload_n (pc' := 1) hE dX2_beforeUnit_0 rfl rfl rfl ?_
  refine dk_bipush (pc' := 3) hE dX2_beforeUnit_1 (by decide) rfl ?_
  refine dk_icmp_ne (tgt := 24) (pc' := 6) hE dX2_beforeUnit_3 (by decide) rfl (fun hc1 => ?_) (fun hc1 => ?_)
  · skip
    refine dk_aload_n (pc' := 25) hE dX2_beforeUnit_24 rfl rfl rfl ?_
    refine dk_iload_n (pc' := 26) hE dX2_beforeUnit_25 rfl rfl rfl ?_
    refine dk_cV (pc' := 29) (as := [(0, k)]) hE lk_X2_92 (ct_X2_codeOf l G hGd k) dX2_beforeUnit_26 rfl is_10 rfl (by decide) (Nat.le_of_ble_eq_true rfl) ⟨rfl, (by omega)⟩ rfl (fun r3 σ2 hr3 _ => ?_)
    obtain ⟨v4, rfl, hfσ2, hpr3⟩ := hr3
    have hsσ2 : σ = σ2 := (funext (fun k => funext (fun j => hfσ2 k j not_false))).symm
    subst hsσ2
    refine dk_istore_n (pc' := 30) (ls' := [(4, 10), (0, k), (0, u), (0, v4)]) hE dX2_beforeUnit_29 rfl rfl (by decide) rfl ?_
    refine dk_iload_n (pc' := 31) hE dX2_beforeUnit_30 rfl rfl rfl ?_
    refine dk_bipush (pc' := 33) hE dX2_beforeUnit_31 (by decide) rfl ?_
    refine dk_icmp_eq (tgt := 41) (pc' := 36) hE dX2_beforeUnit_33 (by decide) rfl (fun hc5 => ?_) (fun hc5 => ?_)
    · skip
      refine dk_aload_n (pc' := 42) hE dX2_beforeUnit_41 rfl rfl rfl ?_
      refine gf_2_4 (pc' := 45) hE fl_X2_28 dX2_beforeUnit_42 is_10 rfl (fun v6 hv6 htv6 hbv6 => ?_)
      refine dk_bipush (pc' := 47) hE dX2_beforeUnit_45 (by decide) rfl ?_
      refine dk_icmp_lt (tgt := 52) (pc' := 50) hE dX2_beforeUnit_47 (by decide) rfl (fun hc7 => ?_) (fun hc7 => ?_)
      · skip
        refine dk_aload_n (pc' := 53) hE dX2_beforeUnit_52 rfl rfl rfl ?_
        refine dk_dup (pc' := 54) hE dX2_beforeUnit_53 (show (4 : Nat) ≠ 3 by decide) rfl ?_
        refine gf_2_4 (pc' := 57) hE fl_X2_28 dX2_beforeUnit_54 is_10 rfl (fun v8 hv8 htv8 hbv8 => ?_)
        have hq8 : v6 = v8 := (show v8 = v6 by rw [hv8, hv6]).symm
        subst hq8
        clear htv8 hbv8
        refine dk_iconst (pc' := 58) hE dX2_beforeUnit_57 (by decide) rfl ?_
        obtain ⟨v9, hv9⟩ : ∃ z : Int, z = v6 + 1 := ⟨_, rfl⟩
        refine dk_iadd (pc' := 59) hE dX2_beforeUnit_58 hv9.symm (by omega) rfl ?_
        refine pf_2_4 (pc' := 62) hE fl_X2_28 dX2_beforeUnit_59 is_10 (by omega) rfl (fun σ10 eσ10 => ?_)
        refine dk_iload_n (pc' := 63) hE dX2_beforeUnit_62 rfl rfl rfl ?_
        refine dk_bipush (pc' := 65) hE dX2_beforeUnit_63 (by decide) rfl ?_
        refine dk_icmp_ne (tgt := 82) (pc' := 68) hE dX2_beforeUnit_65 (by decide) rfl (fun hc11 => ?_) (fun hc11 => ?_)
        · skip
          refine dk_aload_n (pc' := 83) hE dX2_beforeUnit_82 rfl rfl rfl ?_
          refine gf_2_5 (pc' := 86) hE fl_X2_19 dX2_beforeUnit_83 is_10 rfl (fun v12 hv12 htv12 hbv12 => ?_)
          have hq12 : v12 = σ 10 5 := by rw [hv12, eσ10, dk_up_n (show ¬ (10 = 10 ∧ 5 = 4) by omega)]
          refine dk_iload_n (pc' := 87) hE dX2_beforeUnit_86 rfl rfl rfl ?_
          refine dk_cV (pc' := 90) (as := [(0, v4)]) hE lk_X2_95 (ct_X3_add l G hGd v12 v4) dX2_beforeUnit_87 rfl (ru_is (by omega)) rfl (by decide) (Nat.le_of_ble_eq_true rfl) ⟨rfl, (by omega), (by omega)⟩ rfl (fun r14 σ13 hr14 _ => ?_)
          obtain ⟨rfl, hfσ13, hpr14⟩ := hr14
          refine dk_iconst (pc' := 91) hE dX2_beforeUnit_90 (by decide) rfl ?_
          have hw15 : 13 ≤ v12 ∧ v12 ≤ 36 := by omega
          have hw16 : 13 ≤ v12 + 1 ∧ v12 + 1 ≤ 36 := by omega
          exact dk_iret (st := []) hE hR dX2_beforeUnit_91 ⟨_, rfl, (fun k_ j_ h_ => by rw [hfσ13 k_ j_ (fun w_ => h_ (w_.elim (fun x0_ => Or.inr (Or.inr (Or.inr (Or.inr (Or.inr (Or.inr (Or.inr (dk_wr x0_.1 hw15)))))))) (fun y0_ => Or.inr (Or.inr (Or.inr (Or.inr (Or.inr (Or.inr (Or.inr (dk_wr y0_ hw16)))))))))), eσ10, dk_up_n (show ¬ (k_ = 10 ∧ j_ = 4) from fun q_ => h_ (Or.inr (Or.inr (Or.inr (Or.inl (q_))))))]), by omega⟩
        · skip
          refine dk_aload_n (pc' := 69) hE dX2_beforeUnit_68 rfl rfl rfl ?_
          refine dk_iload_n (pc' := 70) hE dX2_beforeUnit_69 rfl rfl rfl ?_
          refine dk_cV (pc' := 73) (as := [(0, k)]) hE lk_X2_89 (ct_X2_enter l G hGd k) dX2_beforeUnit_70 rfl is_10 rfl (by decide) (Nat.le_of_ble_eq_true rfl) ⟨rfl, (by omega)⟩ rfl (fun r18 σ17 hr18 _ => ?_)
          obtain ⟨v19, rfl, hfσ17, hpr18⟩ := hr18
          refine dk_if_eq (tgt := 80) (pc' := 76) hE dX2_beforeUnit_73 (by decide) rfl (fun hc20 => ?_) (fun hc20 => ?_)
          · skip
            refine dk_iconst (pc' := 81) hE dX2_beforeUnit_80 (by decide) rfl ?_
            exact dk_iret (st := []) hE hR dX2_beforeUnit_81 ⟨_, rfl, (fun k_ j_ h_ => by rw [hfσ17 k_ j_ (fun w_ => h_ (w_.elim (fun x0_ => Or.inl (x0_)) (fun y0_ => y0_.elim (fun x1_ => Or.inr (Or.inl (x1_))) (fun y1_ => y1_.elim (fun x2_ => Or.inr (Or.inr (Or.inl (x2_)))) (fun y2_ => y2_.elim (fun x3_ => Or.inr (Or.inr (Or.inr (Or.inl (x3_))))) (fun y3_ => y3_.elim (fun x4_ => Or.inr (Or.inr (Or.inr (Or.inr (Or.inl (x4_)))))) (fun y4_ => y4_.elim (fun x5_ => Or.inr (Or.inr (Or.inr (Or.inr (Or.inr (Or.inl (x5_))))))) (fun y5_ => y5_.elim (fun x6_ => Or.inr (Or.inr (Or.inr (Or.inr (Or.inr (Or.inr (Or.inl (x6_)))))))) (fun y6_ => Or.inr (Or.inr (Or.inr (Or.inr (Or.inr (Or.inr (Or.inr (y6_)))))))))))))))), eσ10, dk_up_n (show ¬ (k_ = 10 ∧ j_ = 4) from fun q_ => h_ (Or.inr (Or.inr (Or.inr (Or.inl (q_))))))]), by omega⟩
          · skip
            refine dk_iconst (pc' := 77) hE dX2_beforeUnit_76 (by decide) rfl ?_
            refine dk_goto (tgt := 81) hE dX2_beforeUnit_77 (by decide) ?_
            exact dk_iret (st := []) hE hR dX2_beforeUnit_81 ⟨_, rfl, (fun k_ j_ h_ => by rw [hfσ17 k_ j_ (fun w_ => h_ (w_.elim (fun x0_ => Or.inl (x0_)) (fun y0_ => y0_.elim (fun x1_ => Or.inr (Or.inl (x1_))) (fun y1_ => y1_.elim (fun x2_ => Or.inr (Or.inr (Or.inl (x2_)))) (fun y2_ => y2_.elim (fun x3_ => Or.inr (Or.inr (Or.inr (Or.inl (x3_))))) (fun y3_ => y3_.elim (fun x4_ => Or.inr (Or.inr (Or.inr (Or.inr (Or.inl (x4_)))))) (fun y4_ => y4_.elim (fun x5_ => Or.inr (Or.inr (Or.inr (Or.inr (Or.inr (Or.inl (x5_))))))) (fun y5_ => y5_.elim (fun x6_ => Or.inr (Or.inr (Or.inr (Or.inr (Or.inr (Or.inr (Or.inl (x6_)))))))) (fun y6_ => Or.inr (Or.inr (Or.inr (Or.inr (Or.inr (Or.inr (Or.inr (y6_)))))))))))))))), eσ10, dk_up_n (show ¬ (k_ = 10 ∧ j_ = 4) from fun q_ => h_ (Or.inr (Or.inr (Or.inr (Or.inl (q_))))))]), by omega⟩
      · skip
        refine dk_iconst (pc' := 51) hE dX2_beforeUnit_50 (by decide) rfl ?_
        exact dk_iret (st := []) hE hR dX2_beforeUnit_51 ⟨_, rfl, (fun k_ j_ h_ => rfl), by omega⟩
    · skip
      refine dk_iload_n (pc' := 37) hE dX2_beforeUnit_36 rfl rfl rfl ?_
      refine dk_iconst (pc' := 38) hE dX2_beforeUnit_37 (by decide) rfl ?_
      refine dk_icmp_eq (tgt := 50) (pc' := 41) hE dX2_beforeUnit_38 (by decide) rfl (fun hc21 => ?_) (fun hc21 => ?_)
      · skip
        refine dk_iconst (pc' := 51) hE dX2_beforeUnit_50 (by decide) rfl ?_
        exact dk_iret (st := []) hE hR dX2_beforeUnit_51 ⟨_, rfl, (fun k_ j_ h_ => rfl), by omega⟩
      · skip
        refine dk_aload_n (pc' := 42) hE dX2_beforeUnit_41 rfl rfl rfl ?_
        refine gf_2_4 (pc' := 45) hE fl_X2_28 dX2_beforeUnit_42 is_10 rfl (fun v22 hv22 htv22 hbv22 => ?_)
        refine dk_bipush (pc' := 47) hE dX2_beforeUnit_45 (by decide) rfl ?_
        refine dk_icmp_lt (tgt := 52) (pc' := 50) hE dX2_beforeUnit_47 (by decide) rfl (fun hc23 => ?_) (fun hc23 => ?_)
        · skip
          refine dk_aload_n (pc' := 53) hE dX2_beforeUnit_52 rfl rfl rfl ?_
          refine dk_dup (pc' := 54) hE dX2_beforeUnit_53 (show (4 : Nat) ≠ 3 by decide) rfl ?_
          refine gf_2_4 (pc' := 57) hE fl_X2_28 dX2_beforeUnit_54 is_10 rfl (fun v24 hv24 htv24 hbv24 => ?_)
          have hq24 : v22 = v24 := (show v24 = v22 by rw [hv24, hv22]).symm
          subst hq24
          clear htv24 hbv24
          refine dk_iconst (pc' := 58) hE dX2_beforeUnit_57 (by decide) rfl ?_
          obtain ⟨v25, hv25⟩ : ∃ z : Int, z = v22 + 1 := ⟨_, rfl⟩
          refine dk_iadd (pc' := 59) hE dX2_beforeUnit_58 hv25.symm (by omega) rfl ?_
          refine pf_2_4 (pc' := 62) hE fl_X2_28 dX2_beforeUnit_59 is_10 (by omega) rfl (fun σ26 eσ26 => ?_)
          refine dk_iload_n (pc' := 63) hE dX2_beforeUnit_62 rfl rfl rfl ?_
          refine dk_bipush (pc' := 65) hE dX2_beforeUnit_63 (by decide) rfl ?_
          refine dk_icmp_ne (tgt := 82) (pc' := 68) hE dX2_beforeUnit_65 (by decide) rfl (fun hc27 => ?_) (fun hc27 => ?_)
          · skip
            refine dk_aload_n (pc' := 83) hE dX2_beforeUnit_82 rfl rfl rfl ?_
            refine gf_2_5 (pc' := 86) hE fl_X2_19 dX2_beforeUnit_83 is_10 rfl (fun v28 hv28 htv28 hbv28 => ?_)
            have hq28 : v28 = σ 10 5 := by rw [hv28, eσ26, dk_up_n (show ¬ (10 = 10 ∧ 5 = 4) by omega)]
            refine dk_iload_n (pc' := 87) hE dX2_beforeUnit_86 rfl rfl rfl ?_
            refine dk_cV (pc' := 90) (as := [(0, v4)]) hE lk_X2_95 (ct_X3_add l G hGd v28 v4) dX2_beforeUnit_87 rfl (ru_is (by omega)) rfl (by decide) (Nat.le_of_ble_eq_true rfl) ⟨rfl, (by omega), (by omega)⟩ rfl (fun r30 σ29 hr30 _ => ?_)
            obtain ⟨rfl, hfσ29, hpr30⟩ := hr30
            refine dk_iconst (pc' := 91) hE dX2_beforeUnit_90 (by decide) rfl ?_
            have hw31 : 13 ≤ v28 ∧ v28 ≤ 36 := by omega
            have hw32 : 13 ≤ v28 + 1 ∧ v28 + 1 ≤ 36 := by omega
            exact dk_iret (st := []) hE hR dX2_beforeUnit_91 ⟨_, rfl, (fun k_ j_ h_ => by rw [hfσ29 k_ j_ (fun w_ => h_ (w_.elim (fun x0_ => Or.inr (Or.inr (Or.inr (Or.inr (Or.inr (Or.inr (Or.inr (dk_wr x0_.1 hw31)))))))) (fun y0_ => Or.inr (Or.inr (Or.inr (Or.inr (Or.inr (Or.inr (Or.inr (dk_wr y0_ hw32)))))))))), eσ26, dk_up_n (show ¬ (k_ = 10 ∧ j_ = 4) from fun q_ => h_ (Or.inr (Or.inr (Or.inr (Or.inl (q_))))))]), by omega⟩
          · skip
            refine dk_aload_n (pc' := 69) hE dX2_beforeUnit_68 rfl rfl rfl ?_
            refine dk_iload_n (pc' := 70) hE dX2_beforeUnit_69 rfl rfl rfl ?_
            refine dk_cV (pc' := 73) (as := [(0, k)]) hE lk_X2_89 (ct_X2_enter l G hGd k) dX2_beforeUnit_70 rfl is_10 rfl (by decide) (Nat.le_of_ble_eq_true rfl) ⟨rfl, (by omega)⟩ rfl (fun r34 σ33 hr34 _ => ?_)
            obtain ⟨v35, rfl, hfσ33, hpr34⟩ := hr34
            refine dk_if_eq (tgt := 80) (pc' := 76) hE dX2_beforeUnit_73 (by decide) rfl (fun hc36 => ?_) (fun hc36 => ?_)
            · skip
              refine dk_iconst (pc' := 81) hE dX2_beforeUnit_80 (by decide) rfl ?_
              exact dk_iret (st := []) hE hR dX2_beforeUnit_81 ⟨_, rfl, (fun k_ j_ h_ => by rw [hfσ33 k_ j_ (fun w_ => h_ (w_.elim (fun x0_ => Or.inl (x0_)) (fun y0_ => y0_.elim (fun x1_ => Or.inr (Or.inl (x1_))) (fun y1_ => y1_.elim (fun x2_ => Or.inr (Or.inr (Or.inl (x2_)))) (fun y2_ => y2_.elim (fun x3_ => Or.inr (Or.inr (Or.inr (Or.inl (x3_))))) (fun y3_ => y3_.elim (fun x4_ => Or.inr (Or.inr (Or.inr (Or.inr (Or.inl (x4_)))))) (fun y4_ => y4_.elim (fun x5_ => Or.inr (Or.inr (Or.inr (Or.inr (Or.inr (Or.inl (x5_))))))) (fun y5_ => y5_.elim (fun x6_ => Or.inr (Or.inr (Or.inr (Or.inr (Or.inr (Or.inr (Or.inl (x6_)))))))) (fun y6_ => Or.inr (Or.inr (Or.inr (Or.inr (Or.inr (Or.inr (Or.inr (y6_)))))))))))))))), eσ26, dk_up_n (show ¬ (k_ = 10 ∧ j_ = 4) from fun q_ => h_ (Or.inr (Or.inr (Or.inr (Or.inl (q_))))))]), by omega⟩
            · skip
              refine dk_iconst (pc' := 77) hE dX2_beforeUnit_76 (by decide) rfl ?_
              refine dk_goto (tgt := 81) hE dX2_beforeUnit_77 (by decide) ?_
              exact dk_iret (st := []) hE hR dX2_beforeUnit_81 ⟨_, rfl, (fun k_ j_ h_ => by rw [hfσ33 k_ j_ (fun w_ => h_ (w_.elim (fun x0_ => Or.inl (x0_)) (fun y0_ => y0_.elim (fun x1_ => Or.inr (Or.inl (x1_))) (fun y1_ => y1_.elim (fun x2_ => Or.inr (Or.inr (Or.inl (x2_)))) (fun y2_ => y2_.elim (fun x3_ => Or.inr (Or.inr (Or.inr (Or.inl (x3_))))) (fun y3_ => y3_.elim (fun x4_ => Or.inr (Or.inr (Or.inr (Or.inr (Or.inl (x4_)))))) (fun y4_ => y4_.elim (fun x5_ => Or.inr (Or.inr (Or.inr (Or.inr (Or.inr (Or.inl (x5_))))))) (fun y5_ => y5_.elim (fun x6_ => Or.inr (Or.inr (Or.inr (Or.inr (Or.inr (Or.inr (Or.inl (x6_)))))))) (fun y6_ => Or.inr (Or.inr (Or.inr (Or.inr (Or.inr (Or.inr (Or.inr (y6_)))))))))))))))), eσ26, dk_up_n (show ¬ (k_ = 10 ∧ j_ = 4) from fun q_ => h_ (Or.inr (Or.inr (Or.inr (Or.inl (q_))))))]), by omega⟩
        · skip
          refine dk_iconst (pc' := 51) hE dX2_beforeUnit_50 (by decide) rfl ?_
          exact dk_iret (st := []) hE hR dX2_beforeUnit_51 ⟨_, rfl, (fun k_ j_ h_ => rfl), by omega⟩
  · skip
    refine dk_iload_n (pc' := 7) hE dX2_beforeUnit_6 rfl rfl rfl ?_
    refine dk_if_ne (tgt := 22) (pc' := 10) hE dX2_beforeUnit_7 (by decide) rfl (fun hc37 => ?_) (fun hc37 => ?_)
    · skip
      refine dk_iconst (pc' := 23) hE dX2_beforeUnit_22 (by decide) rfl ?_
      exact dk_iret (st := []) hE hR dX2_beforeUnit_23 ⟨_, rfl, (fun k_ j_ h_ => rfl), by omega⟩
    · skip
      refine dk_aload_n (pc' := 11) hE dX2_beforeUnit_10 rfl rfl rfl ?_
      refine dk_iload_n (pc' := 12) hE dX2_beforeUnit_11 rfl rfl rfl ?_
      refine dk_cV (pc' := 15) (as := [(0, k)]) hE lk_X2_89 (ct_X2_enter l G hGd k) dX2_beforeUnit_12 rfl is_10 rfl (by decide) (Nat.le_of_ble_eq_true rfl) ⟨rfl, (by omega)⟩ rfl (fun r39 σ38 hr39 _ => ?_)
      obtain ⟨v40, rfl, hfσ38, hpr39⟩ := hr39
      refine dk_if_eq (tgt := 22) (pc' := 18) hE dX2_beforeUnit_15 (by decide) rfl (fun hc41 => ?_) (fun hc41 => ?_)
      · skip
        refine dk_iconst (pc' := 23) hE dX2_beforeUnit_22 (by decide) rfl ?_
        exact dk_iret (st := []) hE hR dX2_beforeUnit_23 ⟨_, rfl, (fun k_ j_ h_ => by rw [hfσ38 k_ j_ (fun w_ => h_ (w_.elim (fun x0_ => Or.inl (x0_)) (fun y0_ => y0_.elim (fun x1_ => Or.inr (Or.inl (x1_))) (fun y1_ => y1_.elim (fun x2_ => Or.inr (Or.inr (Or.inl (x2_)))) (fun y2_ => y2_.elim (fun x3_ => Or.inr (Or.inr (Or.inr (Or.inl (x3_))))) (fun y3_ => y3_.elim (fun x4_ => Or.inr (Or.inr (Or.inr (Or.inr (Or.inl (x4_)))))) (fun y4_ => y4_.elim (fun x5_ => Or.inr (Or.inr (Or.inr (Or.inr (Or.inr (Or.inl (x5_))))))) (fun y5_ => y5_.elim (fun x6_ => Or.inr (Or.inr (Or.inr (Or.inr (Or.inr (Or.inr (Or.inl (x6_)))))))) (fun y6_ => Or.inr (Or.inr (Or.inr (Or.inr (Or.inr (Or.inr (Or.inr (y6_))))))))))))))))]), by omega⟩
      · skip
        refine dk_iconst (pc' := 19) hE dX2_beforeUnit_18 (by decide) rfl ?_
        refine dk_goto (tgt := 23) hE dX2_beforeUnit_19 (by decide) ?_
        exact dk_iret (st := []) hE hR dX2_beforeUnit_23 ⟨_, rfl, (fun k_ j_ h_ => by rw [hfσ38 k_ j_ (fun w_ => h_ (w_.elim (fun x0_ => Or.inl (x0_)) (fun y0_ => y0_.elim (fun x1_ => Or.inr (Or.inl (x1_))) (fun y1_ => y1_.elim (fun x2_ => Or.inr (Or.inr (Or.inl (x2_)))) (fun y2_ => y2_.elim (fun x3_ => Or.inr (Or.inr (Or.inr (Or.inl (x3_))))) (fun y3_ => y3_.elim (fun x4_ => Or.inr (Or.inr (Or.inr (Or.inr (Or.inl (x4_)))))) (fun y4_ => y4_.elim (fun x5_ => Or.inr (Or.inr (Or.inr (Or.inr (Or.inr (Or.inl (x5_))))))) (fun y5_ => y5_.elim (fun x6_ => Or.inr (Or.inr (Or.inr (Or.inr (Or.inr (Or.inr (Or.inl (x6_)))))))) (fun y6_ => Or.inr (Or.inr (Or.inr (Or.inr (Or.inr (Or.inr (Or.inr (y6_))))))))))))))))]), by omega⟩
set_option maxHeartbeats 4000000 in
set_option maxRecDepth 20000 in
theorem ct_X2_afterUnit (l : Launch) (G : dkG) (hGd : dk_Gd G) (k : Int) : dk_Ct l G dk_Ty yX2_afterUnit cX2_afterUnit 3 (some .int) 3 190 190 (fun av σ => av = [(4, 10), (0, k)] ∧ (13 ≤ σ 10 5 ∧ σ 10 5 ≤ 33 ∧ (σ 10 5 - 13) % 4 = 0) ∧ (0 ≤ k ∧ k ≤ 127)) (fun _ σ r_ σ' => ∃ z : Int, r_ = some (0, z) ∧ (∀ k_ j_ : Int, ¬ (k_ = 6 ∨ (k_ = 10 ∧ j_ = 2) ∨ (k_ = 10 ∧ j_ = 3) ∨ (k_ = 10 ∧ j_ = 4) ∨ (k_ = 10 ∧ j_ = 6) ∨ (k_ = 10 ∧ j_ = 7) ∨ k_ = 11 ∨ (13 ≤ k_ ∧ k_ ≤ 36)) → σ' k_ j_ = σ k_ j_) ∧ (0 ≤ z ∧ z ≤ 4)) := by
  refine dk_enter hGd (by decide) (fun av σ hpre hok => ?_)
  obtain ⟨rfl, hru, hk⟩ := hpre
  refine ⟨Nat.le_of_ble_eq_true rfl, fun E hE hR _ => ?_⟩
  have hi_k : dk_i32 k := dk_oki (hok _ (by simp))
  show dk_PJ E 0 [(4, 10), (0, k), (9, 0)] [] 190 σ
  refine dk_iload_n (pc' := 1) hE dX2_afterUnit_0 rfl rfl rfl ?_
  refine dk_bipush (pc' := 3) hE dX2_afterUnit_1 (by decide) rfl ?_
  refine dk_icmp_ne (tgt := 24) (pc' := 6) hE dX2_afterUnit_3 (by decide) rfl (fun hc1 => ?_) (fun hc1 => ?_)
  · skip
    refine dk_iload_n (pc' := 25) hE dX2_afterUnit_24 rfl rfl rfl ?_
    refine dk_bipush (pc' := 27) hE dX2_afterUnit_25 (by decide) rfl ?_
    refine dk_icmp_ne (tgt := 48) (pc' := 30) hE dX2_afterUnit_27 (by decide) rfl (fun hc2 => ?_) (fun hc2 => ?_)
    · skip
      refine dk_iload_n (pc' := 49) hE dX2_afterUnit_48 rfl rfl rfl ?_
      refine dk_cS (pc' := 52) (as := [(0, k)]) hE lk_X2_112 (ct_X2_rankOf l G hGd k) dX2_afterUnit_49 rfl rfl (by decide) (Nat.le_of_ble_eq_true rfl) rfl rfl (fun r4 σ3 hr4 _ => ?_)
      obtain ⟨v5, rfl, hfσ3, hpr4⟩ := hr4
      have hsσ3 : σ = σ3 := (funext (fun k => funext (fun j => hfσ3 k j not_false))).symm
      subst hsσ3
      refine dk_istore_n (pc' := 53) (ls' := [(4, 10), (0, k), (0, v5)]) hE dX2_afterUnit_52 rfl rfl (by decide) rfl ?_
      refine dk_iload_n (pc' := 54) hE dX2_afterUnit_53 rfl rfl rfl ?_
      refine dk_iconst (pc' := 55) hE dX2_afterUnit_54 (by decide) rfl ?_
      refine dk_icmp_eq (tgt := 63) (pc' := 58) hE dX2_afterUnit_55 (by decide) rfl (fun hc6 => ?_) (fun hc6 => ?_)
      · skip
        refine dk_iconst (pc' := 64) hE dX2_afterUnit_63 (by decide) rfl ?_
        exact dk_iret (st := []) hE hR dX2_afterUnit_64 ⟨_, rfl, (fun k_ j_ h_ => rfl), by omega⟩
      · skip
        refine dk_iload_n (pc' := 59) hE dX2_afterUnit_58 rfl rfl rfl ?_
        refine dk_iconst (pc' := 60) hE dX2_afterUnit_59 (by decide) rfl ?_
        refine dk_icmp_ne (tgt := 65) (pc' := 63) hE dX2_afterUnit_60 (by decide) rfl (fun hc7 => ?_) (fun hc7 => ?_)
        · skip
          refine dk_aload_n (pc' := 66) hE dX2_afterUnit_65 rfl rfl rfl ?_
          refine dk_iload_n (pc' := 67) hE dX2_afterUnit_66 rfl rfl rfl ?_
          refine dk_iconst (pc' := 68) hE dX2_afterUnit_67 (by decide) rfl ?_
          refine dk_icmp_ne (tgt := 75) (pc' := 71) hE dX2_afterUnit_68 (by decide) rfl (fun hc8 => ?_) (fun hc8 => ?_)
          · skip
            refine dk_iload_n (pc' := 76) hE dX2_afterUnit_75 rfl rfl rfl ?_
            refine dk_cV (pc' := 79) (as := [(0, v5)]) hE lk_X2_106 (ct_X2_release l G hGd v5) dX2_afterUnit_76 rfl is_10 rfl (by decide) (Nat.le_of_ble_eq_true rfl) ⟨rfl, (by omega)⟩ rfl (fun r10 σ9 hr10 _ => ?_)
            obtain ⟨rfl, hfσ9, hpr10⟩ := hr10
            refine dk_iload_n (pc' := 80) hE dX2_afterUnit_79 rfl rfl rfl ?_
            refine dk_iconst (pc' := 81) hE dX2_afterUnit_80 (by decide) rfl ?_
            refine dk_icmp_ne (tgt := 111) (pc' := 84) hE dX2_afterUnit_81 (by decide) rfl (fun hc11 => ?_) (fun hc11 => ?_)
            · skip
              refine dk_aload_n (pc' := 112) hE dX2_afterUnit_111 rfl rfl rfl ?_
              refine dk_iload_n (pc' := 113) hE dX2_afterUnit_112 rfl rfl rfl ?_
              refine dk_cV (pc' := 116) (as := [(0, k)]) hE lk_X2_115 (ct_X2_push l G hGd k) dX2_afterUnit_113 rfl is_10 rfl (by decide) (Nat.le_of_ble_eq_true rfl) ⟨rfl, (by omega)⟩ rfl (fun r13 σ12 hr13 _ => ?_)
              obtain ⟨v14, rfl, hfσ12, hpr13⟩ := hr13
              refine dk_if_eq (tgt := 132) (pc' := 119) hE dX2_afterUnit_116 (by decide) rfl (fun hc15 => ?_) (fun hc15 => ?_)
              · skip
                refine dk_iconst (pc' := 133) hE dX2_afterUnit_132 (by decide) rfl ?_
                exact dk_iret (st := []) hE hR dX2_afterUnit_133 ⟨_, rfl, (fun k_ j_ h_ => by rw [hfσ12 k_ j_ (fun w_ => h_ (w_.elim (fun x0_ => Or.inr (Or.inl (x0_))) (fun y0_ => Or.inr (Or.inr (Or.inr (Or.inr (Or.inr (Or.inr (Or.inl (y0_)))))))))), hfσ9 k_ j_ (fun w_ => h_ (w_.elim (fun x0_ => Or.inl (x0_)) (fun y0_ => y0_.elim (fun x1_ => Or.inr (Or.inl (x1_))) (fun y1_ => y1_.elim (fun x2_ => Or.inr (Or.inr (Or.inl (x2_)))) (fun y2_ => y2_.elim (fun x3_ => Or.inr (Or.inr (Or.inr (Or.inl (x3_))))) (fun y3_ => y3_.elim (fun x4_ => Or.inr (Or.inr (Or.inr (Or.inr (Or.inl (x4_)))))) (fun y4_ => y4_.elim (fun x5_ => Or.inr (Or.inr (Or.inr (Or.inr (Or.inr (Or.inl (x5_))))))) (fun y5_ => y5_.elim (fun x6_ => Or.inr (Or.inr (Or.inr (Or.inr (Or.inr (Or.inr (Or.inl (x6_)))))))) (fun y6_ => Or.inr (Or.inr (Or.inr (Or.inr (Or.inr (Or.inr (Or.inr (y6_))))))))))))))))]), by omega⟩
              · skip
                refine dk_iload_n (pc' := 120) hE dX2_afterUnit_119 rfl rfl rfl ?_
                refine dk_iconst (pc' := 121) hE dX2_afterUnit_120 (by decide) rfl ?_
                refine dk_icmp_gt (tgt := 128) (pc' := 124) hE dX2_afterUnit_121 (by decide) rfl (fun hc16 => ?_) (fun hc16 => ?_)
                · skip
                  refine dk_iconst (pc' := 129) hE dX2_afterUnit_128 (by decide) rfl ?_
                  refine dk_goto (tgt := 133) hE dX2_afterUnit_129 (by decide) ?_
                  exact dk_iret (st := []) hE hR dX2_afterUnit_133 ⟨_, rfl, (fun k_ j_ h_ => by rw [hfσ12 k_ j_ (fun w_ => h_ (w_.elim (fun x0_ => Or.inr (Or.inl (x0_))) (fun y0_ => Or.inr (Or.inr (Or.inr (Or.inr (Or.inr (Or.inr (Or.inl (y0_)))))))))), hfσ9 k_ j_ (fun w_ => h_ (w_.elim (fun x0_ => Or.inl (x0_)) (fun y0_ => y0_.elim (fun x1_ => Or.inr (Or.inl (x1_))) (fun y1_ => y1_.elim (fun x2_ => Or.inr (Or.inr (Or.inl (x2_)))) (fun y2_ => y2_.elim (fun x3_ => Or.inr (Or.inr (Or.inr (Or.inl (x3_))))) (fun y3_ => y3_.elim (fun x4_ => Or.inr (Or.inr (Or.inr (Or.inr (Or.inl (x4_)))))) (fun y4_ => y4_.elim (fun x5_ => Or.inr (Or.inr (Or.inr (Or.inr (Or.inr (Or.inl (x5_))))))) (fun y5_ => y5_.elim (fun x6_ => Or.inr (Or.inr (Or.inr (Or.inr (Or.inr (Or.inr (Or.inl (x6_)))))))) (fun y6_ => Or.inr (Or.inr (Or.inr (Or.inr (Or.inr (Or.inr (Or.inr (y6_))))))))))))))))]), by omega⟩
                · skip
                  refine dk_iconst (pc' := 125) hE dX2_afterUnit_124 (by decide) rfl ?_
                  refine dk_goto (tgt := 133) hE dX2_afterUnit_125 (by decide) ?_
                  exact dk_iret (st := []) hE hR dX2_afterUnit_133 ⟨_, rfl, (fun k_ j_ h_ => by rw [hfσ12 k_ j_ (fun w_ => h_ (w_.elim (fun x0_ => Or.inr (Or.inl (x0_))) (fun y0_ => Or.inr (Or.inr (Or.inr (Or.inr (Or.inr (Or.inr (Or.inl (y0_)))))))))), hfσ9 k_ j_ (fun w_ => h_ (w_.elim (fun x0_ => Or.inl (x0_)) (fun y0_ => y0_.elim (fun x1_ => Or.inr (Or.inl (x1_))) (fun y1_ => y1_.elim (fun x2_ => Or.inr (Or.inr (Or.inl (x2_)))) (fun y2_ => y2_.elim (fun x3_ => Or.inr (Or.inr (Or.inr (Or.inl (x3_))))) (fun y3_ => y3_.elim (fun x4_ => Or.inr (Or.inr (Or.inr (Or.inr (Or.inl (x4_)))))) (fun y4_ => y4_.elim (fun x5_ => Or.inr (Or.inr (Or.inr (Or.inr (Or.inr (Or.inl (x5_))))))) (fun y5_ => y5_.elim (fun x6_ => Or.inr (Or.inr (Or.inr (Or.inr (Or.inr (Or.inr (Or.inl (x6_)))))))) (fun y6_ => Or.inr (Or.inr (Or.inr (Or.inr (Or.inr (Or.inr (Or.inr (y6_))))))))))))))))]), by omega⟩
            · skip
              refine dk_aload_n (pc' := 85) hE dX2_afterUnit_84 rfl rfl rfl ?_
              refine gf_2_2 (pc' := 88) hE fl_X2_74 dX2_afterUnit_85 is_10 rfl (fun v17 hv17 htv17 hbv17 => ?_)
              refine dk_if_le (tgt := 111) (pc' := 91) hE dX2_afterUnit_88 (by decide) rfl (fun hc18 => ?_) (fun hc18 => ?_)
              · skip
                refine dk_aload_n (pc' := 112) hE dX2_afterUnit_111 rfl rfl rfl ?_
                refine dk_iload_n (pc' := 113) hE dX2_afterUnit_112 rfl rfl rfl ?_
                refine dk_cV (pc' := 116) (as := [(0, k)]) hE lk_X2_115 (ct_X2_push l G hGd k) dX2_afterUnit_113 rfl is_10 rfl (by decide) (Nat.le_of_ble_eq_true rfl) ⟨rfl, (by omega)⟩ rfl (fun r20 σ19 hr20 _ => ?_)
                obtain ⟨v21, rfl, hfσ19, hpr20⟩ := hr20
                refine dk_if_eq (tgt := 132) (pc' := 119) hE dX2_afterUnit_116 (by decide) rfl (fun hc22 => ?_) (fun hc22 => ?_)
                · skip
                  refine dk_iconst (pc' := 133) hE dX2_afterUnit_132 (by decide) rfl ?_
                  exact dk_iret (st := []) hE hR dX2_afterUnit_133 ⟨_, rfl, (fun k_ j_ h_ => by rw [hfσ19 k_ j_ (fun w_ => h_ (w_.elim (fun x0_ => Or.inr (Or.inl (x0_))) (fun y0_ => Or.inr (Or.inr (Or.inr (Or.inr (Or.inr (Or.inr (Or.inl (y0_)))))))))), hfσ9 k_ j_ (fun w_ => h_ (w_.elim (fun x0_ => Or.inl (x0_)) (fun y0_ => y0_.elim (fun x1_ => Or.inr (Or.inl (x1_))) (fun y1_ => y1_.elim (fun x2_ => Or.inr (Or.inr (Or.inl (x2_)))) (fun y2_ => y2_.elim (fun x3_ => Or.inr (Or.inr (Or.inr (Or.inl (x3_))))) (fun y3_ => y3_.elim (fun x4_ => Or.inr (Or.inr (Or.inr (Or.inr (Or.inl (x4_)))))) (fun y4_ => y4_.elim (fun x5_ => Or.inr (Or.inr (Or.inr (Or.inr (Or.inr (Or.inl (x5_))))))) (fun y5_ => y5_.elim (fun x6_ => Or.inr (Or.inr (Or.inr (Or.inr (Or.inr (Or.inr (Or.inl (x6_)))))))) (fun y6_ => Or.inr (Or.inr (Or.inr (Or.inr (Or.inr (Or.inr (Or.inr (y6_))))))))))))))))]), by omega⟩
                · skip
                  refine dk_iload_n (pc' := 120) hE dX2_afterUnit_119 rfl rfl rfl ?_
                  refine dk_iconst (pc' := 121) hE dX2_afterUnit_120 (by decide) rfl ?_
                  refine dk_icmp_gt (tgt := 128) (pc' := 124) hE dX2_afterUnit_121 (by decide) rfl (fun hc23 => ?_) (fun hc23 => ?_)
                  · skip
                    refine dk_iconst (pc' := 129) hE dX2_afterUnit_128 (by decide) rfl ?_
                    refine dk_goto (tgt := 133) hE dX2_afterUnit_129 (by decide) ?_
                    exact dk_iret (st := []) hE hR dX2_afterUnit_133 ⟨_, rfl, (fun k_ j_ h_ => by rw [hfσ19 k_ j_ (fun w_ => h_ (w_.elim (fun x0_ => Or.inr (Or.inl (x0_))) (fun y0_ => Or.inr (Or.inr (Or.inr (Or.inr (Or.inr (Or.inr (Or.inl (y0_)))))))))), hfσ9 k_ j_ (fun w_ => h_ (w_.elim (fun x0_ => Or.inl (x0_)) (fun y0_ => y0_.elim (fun x1_ => Or.inr (Or.inl (x1_))) (fun y1_ => y1_.elim (fun x2_ => Or.inr (Or.inr (Or.inl (x2_)))) (fun y2_ => y2_.elim (fun x3_ => Or.inr (Or.inr (Or.inr (Or.inl (x3_))))) (fun y3_ => y3_.elim (fun x4_ => Or.inr (Or.inr (Or.inr (Or.inr (Or.inl (x4_)))))) (fun y4_ => y4_.elim (fun x5_ => Or.inr (Or.inr (Or.inr (Or.inr (Or.inr (Or.inl (x5_))))))) (fun y5_ => y5_.elim (fun x6_ => Or.inr (Or.inr (Or.inr (Or.inr (Or.inr (Or.inr (Or.inl (x6_)))))))) (fun y6_ => Or.inr (Or.inr (Or.inr (Or.inr (Or.inr (Or.inr (Or.inr (y6_))))))))))))))))]), by omega⟩
                  · skip
                    refine dk_iconst (pc' := 125) hE dX2_afterUnit_124 (by decide) rfl ?_
                    refine dk_goto (tgt := 133) hE dX2_afterUnit_125 (by decide) ?_
                    exact dk_iret (st := []) hE hR dX2_afterUnit_133 ⟨_, rfl, (fun k_ j_ h_ => by rw [hfσ19 k_ j_ (fun w_ => h_ (w_.elim (fun x0_ => Or.inr (Or.inl (x0_))) (fun y0_ => Or.inr (Or.inr (Or.inr (Or.inr (Or.inr (Or.inr (Or.inl (y0_)))))))))), hfσ9 k_ j_ (fun w_ => h_ (w_.elim (fun x0_ => Or.inl (x0_)) (fun y0_ => y0_.elim (fun x1_ => Or.inr (Or.inl (x1_))) (fun y1_ => y1_.elim (fun x2_ => Or.inr (Or.inr (Or.inl (x2_)))) (fun y2_ => y2_.elim (fun x3_ => Or.inr (Or.inr (Or.inr (Or.inl (x3_))))) (fun y3_ => y3_.elim (fun x4_ => Or.inr (Or.inr (Or.inr (Or.inr (Or.inl (x4_)))))) (fun y4_ => y4_.elim (fun x5_ => Or.inr (Or.inr (Or.inr (Or.inr (Or.inr (Or.inl (x5_))))))) (fun y5_ => y5_.elim (fun x6_ => Or.inr (Or.inr (Or.inr (Or.inr (Or.inr (Or.inr (Or.inl (x6_)))))))) (fun y6_ => Or.inr (Or.inr (Or.inr (Or.inr (Or.inr (Or.inr (Or.inr (y6_))))))))))))))))]), by omega⟩
              · skip
                refine dk_aload_n (pc' := 92) hE dX2_afterUnit_91 rfl rfl rfl ?_
                refine gf_2_1 (pc' := 95) (w := 11) hE fl_X2_11 dX2_afterUnit_92 is_10 rfl rfl ?_
                refine dk_aload_n (pc' := 96) hE dX2_afterUnit_95 rfl rfl rfl ?_
                refine gf_2_2 (pc' := 99) hE fl_X2_74 dX2_afterUnit_96 is_10 rfl (fun v24 hv24 htv24 hbv24 => ?_)
                have hq24 : v17 = v24 := (show v24 = v17 by rw [hv24, hv17]).symm
                subst hq24
                clear htv24 hbv24
                refine dk_iconst (pc' := 100) hE dX2_afterUnit_99 (by decide) rfl ?_
                obtain ⟨v25, hv25⟩ : ∃ z : Int, z = v17 - 1 := ⟨_, rfl⟩
                refine dk_isub (pc' := 101) hE dX2_afterUnit_100 hv25.symm (by omega) rfl ?_
                refine ga_25 (pc' := 102) hE dX2_afterUnit_101 is_11 (by omega) rfl (fun v26 hv26 htv26 hbv26 => ?_)
                refine dk_cS (pc' := 105) (as := [(0, v26)]) hE lk_X2_112 (ct_X2_rankOf l G hGd v26) dX2_afterUnit_102 rfl rfl (by decide) (Nat.le_of_ble_eq_true rfl) rfl rfl (fun r28 σ27 hr28 _ => ?_)
                obtain ⟨v29, rfl, hfσ27, hpr28⟩ := hr28
                have hsσ27 : σ9 = σ27 := (funext (fun k => funext (fun j => hfσ27 k j not_false))).symm
                subst hsσ27
                refine dk_iconst (pc' := 106) hE dX2_afterUnit_105 (by decide) rfl ?_
                refine dk_icmp_ne (tgt := 111) (pc' := 109) hE dX2_afterUnit_106 (by decide) rfl (fun hc30 => ?_) (fun hc30 => ?_)
                · skip
                  refine dk_aload_n (pc' := 112) hE dX2_afterUnit_111 rfl rfl rfl ?_
                  refine dk_iload_n (pc' := 113) hE dX2_afterUnit_112 rfl rfl rfl ?_
                  refine dk_cV (pc' := 116) (as := [(0, k)]) hE lk_X2_115 (ct_X2_push l G hGd k) dX2_afterUnit_113 rfl is_10 rfl (by decide) (Nat.le_of_ble_eq_true rfl) ⟨rfl, (by omega)⟩ rfl (fun r32 σ31 hr32 _ => ?_)
                  obtain ⟨v33, rfl, hfσ31, hpr32⟩ := hr32
                  refine dk_if_eq (tgt := 132) (pc' := 119) hE dX2_afterUnit_116 (by decide) rfl (fun hc34 => ?_) (fun hc34 => ?_)
                  · skip
                    refine dk_iconst (pc' := 133) hE dX2_afterUnit_132 (by decide) rfl ?_
                    exact dk_iret (st := []) hE hR dX2_afterUnit_133 ⟨_, rfl, (fun k_ j_ h_ => by rw [hfσ31 k_ j_ (fun w_ => h_ (w_.elim (fun x0_ => Or.inr (Or.inl (x0_))) (fun y0_ => Or.inr (Or.inr (Or.inr (Or.inr (Or.inr (Or.inr (Or.inl (y0_)))))))))), hfσ9 k_ j_ (fun w_ => h_ (w_.elim (fun x0_ => Or.inl (x0_)) (fun y0_ => y0_.elim (fun x1_ => Or.inr (Or.inl (x1_))) (fun y1_ => y1_.elim (fun x2_ => Or.inr (Or.inr (Or.inl (x2_)))) (fun y2_ => y2_.elim (fun x3_ => Or.inr (Or.inr (Or.inr (Or.inl (x3_))))) (fun y3_ => y3_.elim (fun x4_ => Or.inr (Or.inr (Or.inr (Or.inr (Or.inl (x4_)))))) (fun y4_ => y4_.elim (fun x5_ => Or.inr (Or.inr (Or.inr (Or.inr (Or.inr (Or.inl (x5_))))))) (fun y5_ => y5_.elim (fun x6_ => Or.inr (Or.inr (Or.inr (Or.inr (Or.inr (Or.inr (Or.inl (x6_)))))))) (fun y6_ => Or.inr (Or.inr (Or.inr (Or.inr (Or.inr (Or.inr (Or.inr (y6_))))))))))))))))]), by omega⟩
                  · skip
                    refine dk_iload_n (pc' := 120) hE dX2_afterUnit_119 rfl rfl rfl ?_
                    refine dk_iconst (pc' := 121) hE dX2_afterUnit_120 (by decide) rfl ?_
                    refine dk_icmp_gt (tgt := 128) (pc' := 124) hE dX2_afterUnit_121 (by decide) rfl (fun hc35 => ?_) (fun hc35 => ?_)
                    · skip
                      refine dk_iconst (pc' := 129) hE dX2_afterUnit_128 (by decide) rfl ?_
                      refine dk_goto (tgt := 133) hE dX2_afterUnit_129 (by decide) ?_
                      exact dk_iret (st := []) hE hR dX2_afterUnit_133 ⟨_, rfl, (fun k_ j_ h_ => by rw [hfσ31 k_ j_ (fun w_ => h_ (w_.elim (fun x0_ => Or.inr (Or.inl (x0_))) (fun y0_ => Or.inr (Or.inr (Or.inr (Or.inr (Or.inr (Or.inr (Or.inl (y0_)))))))))), hfσ9 k_ j_ (fun w_ => h_ (w_.elim (fun x0_ => Or.inl (x0_)) (fun y0_ => y0_.elim (fun x1_ => Or.inr (Or.inl (x1_))) (fun y1_ => y1_.elim (fun x2_ => Or.inr (Or.inr (Or.inl (x2_)))) (fun y2_ => y2_.elim (fun x3_ => Or.inr (Or.inr (Or.inr (Or.inl (x3_))))) (fun y3_ => y3_.elim (fun x4_ => Or.inr (Or.inr (Or.inr (Or.inr (Or.inl (x4_)))))) (fun y4_ => y4_.elim (fun x5_ => Or.inr (Or.inr (Or.inr (Or.inr (Or.inr (Or.inl (x5_))))))) (fun y5_ => y5_.elim (fun x6_ => Or.inr (Or.inr (Or.inr (Or.inr (Or.inr (Or.inr (Or.inl (x6_)))))))) (fun y6_ => Or.inr (Or.inr (Or.inr (Or.inr (Or.inr (Or.inr (Or.inr (y6_))))))))))))))))]), by omega⟩
                    · skip
                      refine dk_iconst (pc' := 125) hE dX2_afterUnit_124 (by decide) rfl ?_
                      refine dk_goto (tgt := 133) hE dX2_afterUnit_125 (by decide) ?_
                      exact dk_iret (st := []) hE hR dX2_afterUnit_133 ⟨_, rfl, (fun k_ j_ h_ => by rw [hfσ31 k_ j_ (fun w_ => h_ (w_.elim (fun x0_ => Or.inr (Or.inl (x0_))) (fun y0_ => Or.inr (Or.inr (Or.inr (Or.inr (Or.inr (Or.inr (Or.inl (y0_)))))))))), hfσ9 k_ j_ (fun w_ => h_ (w_.elim (fun x0_ => Or.inl (x0_)) (fun y0_ => y0_.elim (fun x1_ => Or.inr (Or.inl (x1_))) (fun y1_ => y1_.elim (fun x2_ => Or.inr (Or.inr (Or.inl (x2_)))) (fun y2_ => y2_.elim (fun x3_ => Or.inr (Or.inr (Or.inr (Or.inl (x3_))))) (fun y3_ => y3_.elim (fun x4_ => Or.inr (Or.inr (Or.inr (Or.inr (Or.inl (x4_)))))) (fun y4_ => y4_.elim (fun x5_ => Or.inr (Or.inr (Or.inr (Or.inr (Or.inr (Or.inl (x5_))))))) (fun y5_ => y5_.elim (fun x6_ => Or.inr (Or.inr (Or.inr (Or.inr (Or.inr (Or.inr (Or.inl (x6_)))))))) (fun y6_ => Or.inr (Or.inr (Or.inr (Or.inr (Or.inr (Or.inr (Or.inr (y6_))))))))))))))))]), by omega⟩
                · skip
                  refine dk_iconst (pc' := 110) hE dX2_afterUnit_109 (by decide) rfl ?_
                  exact dk_iret (st := []) hE hR dX2_afterUnit_110 ⟨_, rfl, (fun k_ j_ h_ => by rw [hfσ9 k_ j_ (fun w_ => h_ (w_.elim (fun x0_ => Or.inl (x0_)) (fun y0_ => y0_.elim (fun x1_ => Or.inr (Or.inl (x1_))) (fun y1_ => y1_.elim (fun x2_ => Or.inr (Or.inr (Or.inl (x2_)))) (fun y2_ => y2_.elim (fun x3_ => Or.inr (Or.inr (Or.inr (Or.inl (x3_))))) (fun y3_ => y3_.elim (fun x4_ => Or.inr (Or.inr (Or.inr (Or.inr (Or.inl (x4_)))))) (fun y4_ => y4_.elim (fun x5_ => Or.inr (Or.inr (Or.inr (Or.inr (Or.inr (Or.inl (x5_))))))) (fun y5_ => y5_.elim (fun x6_ => Or.inr (Or.inr (Or.inr (Or.inr (Or.inr (Or.inr (Or.inl (x6_)))))))) (fun y6_ => Or.inr (Or.inr (Or.inr (Or.inr (Or.inr (Or.inr (Or.inr (y6_))))))))))))))))]), by omega⟩
          · skip
            refine dk_iconst (pc' := 72) hE dX2_afterUnit_71 (by decide) rfl ?_
            refine dk_goto (tgt := 76) hE dX2_afterUnit_72 (by decide) ?_
            refine dk_cV (pc' := 79) (as := [(0, 5)]) hE lk_X2_106 (ct_X2_release l G hGd 5) dX2_afterUnit_76 rfl is_10 rfl (by decide) (Nat.le_of_ble_eq_true rfl) ⟨rfl, (by omega)⟩ rfl (fun r37 σ36 hr37 _ => ?_)
            obtain ⟨rfl, hfσ36, hpr37⟩ := hr37
            refine dk_iload_n (pc' := 80) hE dX2_afterUnit_79 rfl rfl rfl ?_
            refine dk_iconst (pc' := 81) hE dX2_afterUnit_80 (by decide) rfl ?_
            refine dk_icmp_ne (tgt := 111) (pc' := 84) hE dX2_afterUnit_81 (by decide) rfl (fun hc38 => ?_) (fun hc38 => ?_)
            · skip
              refine dk_aload_n (pc' := 112) hE dX2_afterUnit_111 rfl rfl rfl ?_
              refine dk_iload_n (pc' := 113) hE dX2_afterUnit_112 rfl rfl rfl ?_
              refine dk_cV (pc' := 116) (as := [(0, k)]) hE lk_X2_115 (ct_X2_push l G hGd k) dX2_afterUnit_113 rfl is_10 rfl (by decide) (Nat.le_of_ble_eq_true rfl) ⟨rfl, (by omega)⟩ rfl (fun r40 σ39 hr40 _ => ?_)
              obtain ⟨v41, rfl, hfσ39, hpr40⟩ := hr40
              refine dk_if_eq (tgt := 132) (pc' := 119) hE dX2_afterUnit_116 (by decide) rfl (fun hc42 => ?_) (fun hc42 => ?_)
              · skip
                refine dk_iconst (pc' := 133) hE dX2_afterUnit_132 (by decide) rfl ?_
                exact dk_iret (st := []) hE hR dX2_afterUnit_133 ⟨_, rfl, (fun k_ j_ h_ => by rw [hfσ39 k_ j_ (fun w_ => h_ (w_.elim (fun x0_ => Or.inr (Or.inl (x0_))) (fun y0_ => Or.inr (Or.inr (Or.inr (Or.inr (Or.inr (Or.inr (Or.inl (y0_)))))))))), hfσ36 k_ j_ (fun w_ => h_ (w_.elim (fun x0_ => Or.inl (x0_)) (fun y0_ => y0_.elim (fun x1_ => Or.inr (Or.inl (x1_))) (fun y1_ => y1_.elim (fun x2_ => Or.inr (Or.inr (Or.inl (x2_)))) (fun y2_ => y2_.elim (fun x3_ => Or.inr (Or.inr (Or.inr (Or.inl (x3_))))) (fun y3_ => y3_.elim (fun x4_ => Or.inr (Or.inr (Or.inr (Or.inr (Or.inl (x4_)))))) (fun y4_ => y4_.elim (fun x5_ => Or.inr (Or.inr (Or.inr (Or.inr (Or.inr (Or.inl (x5_))))))) (fun y5_ => y5_.elim (fun x6_ => Or.inr (Or.inr (Or.inr (Or.inr (Or.inr (Or.inr (Or.inl (x6_)))))))) (fun y6_ => Or.inr (Or.inr (Or.inr (Or.inr (Or.inr (Or.inr (Or.inr (y6_))))))))))))))))]), by omega⟩
              · skip
                refine dk_iload_n (pc' := 120) hE dX2_afterUnit_119 rfl rfl rfl ?_
                refine dk_iconst (pc' := 121) hE dX2_afterUnit_120 (by decide) rfl ?_
                refine dk_icmp_gt (tgt := 128) (pc' := 124) hE dX2_afterUnit_121 (by decide) rfl (fun hc43 => ?_) (fun hc43 => ?_)
                · skip
                  refine dk_iconst (pc' := 129) hE dX2_afterUnit_128 (by decide) rfl ?_
                  refine dk_goto (tgt := 133) hE dX2_afterUnit_129 (by decide) ?_
                  exact dk_iret (st := []) hE hR dX2_afterUnit_133 ⟨_, rfl, (fun k_ j_ h_ => by rw [hfσ39 k_ j_ (fun w_ => h_ (w_.elim (fun x0_ => Or.inr (Or.inl (x0_))) (fun y0_ => Or.inr (Or.inr (Or.inr (Or.inr (Or.inr (Or.inr (Or.inl (y0_)))))))))), hfσ36 k_ j_ (fun w_ => h_ (w_.elim (fun x0_ => Or.inl (x0_)) (fun y0_ => y0_.elim (fun x1_ => Or.inr (Or.inl (x1_))) (fun y1_ => y1_.elim (fun x2_ => Or.inr (Or.inr (Or.inl (x2_)))) (fun y2_ => y2_.elim (fun x3_ => Or.inr (Or.inr (Or.inr (Or.inl (x3_))))) (fun y3_ => y3_.elim (fun x4_ => Or.inr (Or.inr (Or.inr (Or.inr (Or.inl (x4_)))))) (fun y4_ => y4_.elim (fun x5_ => Or.inr (Or.inr (Or.inr (Or.inr (Or.inr (Or.inl (x5_))))))) (fun y5_ => y5_.elim (fun x6_ => Or.inr (Or.inr (Or.inr (Or.inr (Or.inr (Or.inr (Or.inl (x6_)))))))) (fun y6_ => Or.inr (Or.inr (Or.inr (Or.inr (Or.inr (Or.inr (Or.inr (y6_))))))))))))))))]), by omega⟩
                · skip
                  refine dk_iconst (pc' := 125) hE dX2_afterUnit_124 (by decide) rfl ?_
                  refine dk_goto (tgt := 133) hE dX2_afterUnit_125 (by decide) ?_
                  exact dk_iret (st := []) hE hR dX2_afterUnit_133 ⟨_, rfl, (fun k_ j_ h_ => by rw [hfσ39 k_ j_ (fun w_ => h_ (w_.elim (fun x0_ => Or.inr (Or.inl (x0_))) (fun y0_ => Or.inr (Or.inr (Or.inr (Or.inr (Or.inr (Or.inr (Or.inl (y0_)))))))))), hfσ36 k_ j_ (fun w_ => h_ (w_.elim (fun x0_ => Or.inl (x0_)) (fun y0_ => y0_.elim (fun x1_ => Or.inr (Or.inl (x1_))) (fun y1_ => y1_.elim (fun x2_ => Or.inr (Or.inr (Or.inl (x2_)))) (fun y2_ => y2_.elim (fun x3_ => Or.inr (Or.inr (Or.inr (Or.inl (x3_))))) (fun y3_ => y3_.elim (fun x4_ => Or.inr (Or.inr (Or.inr (Or.inr (Or.inl (x4_)))))) (fun y4_ => y4_.elim (fun x5_ => Or.inr (Or.inr (Or.inr (Or.inr (Or.inr (Or.inl (x5_))))))) (fun y5_ => y5_.elim (fun x6_ => Or.inr (Or.inr (Or.inr (Or.inr (Or.inr (Or.inr (Or.inl (x6_)))))))) (fun y6_ => Or.inr (Or.inr (Or.inr (Or.inr (Or.inr (Or.inr (Or.inr (y6_))))))))))))))))]), by omega⟩
            · skip
              refine dk_aload_n (pc' := 85) hE dX2_afterUnit_84 rfl rfl rfl ?_
              refine gf_2_2 (pc' := 88) hE fl_X2_74 dX2_afterUnit_85 is_10 rfl (fun v44 hv44 htv44 hbv44 => ?_)
              refine dk_if_le (tgt := 111) (pc' := 91) hE dX2_afterUnit_88 (by decide) rfl (fun hc45 => ?_) (fun hc45 => ?_)
              · skip
                refine dk_aload_n (pc' := 112) hE dX2_afterUnit_111 rfl rfl rfl ?_
                refine dk_iload_n (pc' := 113) hE dX2_afterUnit_112 rfl rfl rfl ?_
                refine dk_cV (pc' := 116) (as := [(0, k)]) hE lk_X2_115 (ct_X2_push l G hGd k) dX2_afterUnit_113 rfl is_10 rfl (by decide) (Nat.le_of_ble_eq_true rfl) ⟨rfl, (by omega)⟩ rfl (fun r47 σ46 hr47 _ => ?_)
                obtain ⟨v48, rfl, hfσ46, hpr47⟩ := hr47
                refine dk_if_eq (tgt := 132) (pc' := 119) hE dX2_afterUnit_116 (by decide) rfl (fun hc49 => ?_) (fun hc49 => ?_)
                · skip
                  refine dk_iconst (pc' := 133) hE dX2_afterUnit_132 (by decide) rfl ?_
                  exact dk_iret (st := []) hE hR dX2_afterUnit_133 ⟨_, rfl, (fun k_ j_ h_ => by rw [hfσ46 k_ j_ (fun w_ => h_ (w_.elim (fun x0_ => Or.inr (Or.inl (x0_))) (fun y0_ => Or.inr (Or.inr (Or.inr (Or.inr (Or.inr (Or.inr (Or.inl (y0_)))))))))), hfσ36 k_ j_ (fun w_ => h_ (w_.elim (fun x0_ => Or.inl (x0_)) (fun y0_ => y0_.elim (fun x1_ => Or.inr (Or.inl (x1_))) (fun y1_ => y1_.elim (fun x2_ => Or.inr (Or.inr (Or.inl (x2_)))) (fun y2_ => y2_.elim (fun x3_ => Or.inr (Or.inr (Or.inr (Or.inl (x3_))))) (fun y3_ => y3_.elim (fun x4_ => Or.inr (Or.inr (Or.inr (Or.inr (Or.inl (x4_)))))) (fun y4_ => y4_.elim (fun x5_ => Or.inr (Or.inr (Or.inr (Or.inr (Or.inr (Or.inl (x5_))))))) (fun y5_ => y5_.elim (fun x6_ => Or.inr (Or.inr (Or.inr (Or.inr (Or.inr (Or.inr (Or.inl (x6_)))))))) (fun y6_ => Or.inr (Or.inr (Or.inr (Or.inr (Or.inr (Or.inr (Or.inr (y6_))))))))))))))))]), by omega⟩
                · skip
                  refine dk_iload_n (pc' := 120) hE dX2_afterUnit_119 rfl rfl rfl ?_
                  refine dk_iconst (pc' := 121) hE dX2_afterUnit_120 (by decide) rfl ?_
                  refine dk_icmp_gt (tgt := 128) (pc' := 124) hE dX2_afterUnit_121 (by decide) rfl (fun hc50 => ?_) (fun hc50 => ?_)
                  · skip
                    refine dk_iconst (pc' := 129) hE dX2_afterUnit_128 (by decide) rfl ?_
                    refine dk_goto (tgt := 133) hE dX2_afterUnit_129 (by decide) ?_
                    exact dk_iret (st := []) hE hR dX2_afterUnit_133 ⟨_, rfl, (fun k_ j_ h_ => by rw [hfσ46 k_ j_ (fun w_ => h_ (w_.elim (fun x0_ => Or.inr (Or.inl (x0_))) (fun y0_ => Or.inr (Or.inr (Or.inr (Or.inr (Or.inr (Or.inr (Or.inl (y0_)))))))))), hfσ36 k_ j_ (fun w_ => h_ (w_.elim (fun x0_ => Or.inl (x0_)) (fun y0_ => y0_.elim (fun x1_ => Or.inr (Or.inl (x1_))) (fun y1_ => y1_.elim (fun x2_ => Or.inr (Or.inr (Or.inl (x2_)))) (fun y2_ => y2_.elim (fun x3_ => Or.inr (Or.inr (Or.inr (Or.inl (x3_))))) (fun y3_ => y3_.elim (fun x4_ => Or.inr (Or.inr (Or.inr (Or.inr (Or.inl (x4_)))))) (fun y4_ => y4_.elim (fun x5_ => Or.inr (Or.inr (Or.inr (Or.inr (Or.inr (Or.inl (x5_))))))) (fun y5_ => y5_.elim (fun x6_ => Or.inr (Or.inr (Or.inr (Or.inr (Or.inr (Or.inr (Or.inl (x6_)))))))) (fun y6_ => Or.inr (Or.inr (Or.inr (Or.inr (Or.inr (Or.inr (Or.inr (y6_))))))))))))))))]), by omega⟩
                  · skip
                    refine dk_iconst (pc' := 125) hE dX2_afterUnit_124 (by decide) rfl ?_
                    refine dk_goto (tgt := 133) hE dX2_afterUnit_125 (by decide) ?_
                    exact dk_iret (st := []) hE hR dX2_afterUnit_133 ⟨_, rfl, (fun k_ j_ h_ => by rw [hfσ46 k_ j_ (fun w_ => h_ (w_.elim (fun x0_ => Or.inr (Or.inl (x0_))) (fun y0_ => Or.inr (Or.inr (Or.inr (Or.inr (Or.inr (Or.inr (Or.inl (y0_)))))))))), hfσ36 k_ j_ (fun w_ => h_ (w_.elim (fun x0_ => Or.inl (x0_)) (fun y0_ => y0_.elim (fun x1_ => Or.inr (Or.inl (x1_))) (fun y1_ => y1_.elim (fun x2_ => Or.inr (Or.inr (Or.inl (x2_)))) (fun y2_ => y2_.elim (fun x3_ => Or.inr (Or.inr (Or.inr (Or.inl (x3_))))) (fun y3_ => y3_.elim (fun x4_ => Or.inr (Or.inr (Or.inr (Or.inr (Or.inl (x4_)))))) (fun y4_ => y4_.elim (fun x5_ => Or.inr (Or.inr (Or.inr (Or.inr (Or.inr (Or.inl (x5_))))))) (fun y5_ => y5_.elim (fun x6_ => Or.inr (Or.inr (Or.inr (Or.inr (Or.inr (Or.inr (Or.inl (x6_)))))))) (fun y6_ => Or.inr (Or.inr (Or.inr (Or.inr (Or.inr (Or.inr (Or.inr (y6_))))))))))))))))]), by omega⟩
              · skip
                refine dk_aload_n (pc' := 92) hE dX2_afterUnit_91 rfl rfl rfl ?_
                refine gf_2_1 (pc' := 95) (w := 11) hE fl_X2_11 dX2_afterUnit_92 is_10 rfl rfl ?_
                refine dk_aload_n (pc' := 96) hE dX2_afterUnit_95 rfl rfl rfl ?_
                refine gf_2_2 (pc' := 99) hE fl_X2_74 dX2_afterUnit_96 is_10 rfl (fun v51 hv51 htv51 hbv51 => ?_)
                have hq51 : v44 = v51 := (show v51 = v44 by rw [hv51, hv44]).symm
                subst hq51
                clear htv51 hbv51
                refine dk_iconst (pc' := 100) hE dX2_afterUnit_99 (by decide) rfl ?_
                obtain ⟨v52, hv52⟩ : ∃ z : Int, z = v44 - 1 := ⟨_, rfl⟩
                refine dk_isub (pc' := 101) hE dX2_afterUnit_100 hv52.symm (by omega) rfl ?_
                refine ga_25 (pc' := 102) hE dX2_afterUnit_101 is_11 (by omega) rfl (fun v53 hv53 htv53 hbv53 => ?_)
                refine dk_cS (pc' := 105) (as := [(0, v53)]) hE lk_X2_112 (ct_X2_rankOf l G hGd v53) dX2_afterUnit_102 rfl rfl (by decide) (Nat.le_of_ble_eq_true rfl) rfl rfl (fun r55 σ54 hr55 _ => ?_)
                obtain ⟨v56, rfl, hfσ54, hpr55⟩ := hr55
                have hsσ54 : σ36 = σ54 := (funext (fun k => funext (fun j => hfσ54 k j not_false))).symm
                subst hsσ54
                refine dk_iconst (pc' := 106) hE dX2_afterUnit_105 (by decide) rfl ?_
                refine dk_icmp_ne (tgt := 111) (pc' := 109) hE dX2_afterUnit_106 (by decide) rfl (fun hc57 => ?_) (fun hc57 => ?_)
                · skip
                  refine dk_aload_n (pc' := 112) hE dX2_afterUnit_111 rfl rfl rfl ?_
                  refine dk_iload_n (pc' := 113) hE dX2_afterUnit_112 rfl rfl rfl ?_
                  refine dk_cV (pc' := 116) (as := [(0, k)]) hE lk_X2_115 (ct_X2_push l G hGd k) dX2_afterUnit_113 rfl is_10 rfl (by decide) (Nat.le_of_ble_eq_true rfl) ⟨rfl, (by omega)⟩ rfl (fun r59 σ58 hr59 _ => ?_)
                  obtain ⟨v60, rfl, hfσ58, hpr59⟩ := hr59
                  refine dk_if_eq (tgt := 132) (pc' := 119) hE dX2_afterUnit_116 (by decide) rfl (fun hc61 => ?_) (fun hc61 => ?_)
                  · skip
                    refine dk_iconst (pc' := 133) hE dX2_afterUnit_132 (by decide) rfl ?_
                    exact dk_iret (st := []) hE hR dX2_afterUnit_133 ⟨_, rfl, (fun k_ j_ h_ => by rw [hfσ58 k_ j_ (fun w_ => h_ (w_.elim (fun x0_ => Or.inr (Or.inl (x0_))) (fun y0_ => Or.inr (Or.inr (Or.inr (Or.inr (Or.inr (Or.inr (Or.inl (y0_)))))))))), hfσ36 k_ j_ (fun w_ => h_ (w_.elim (fun x0_ => Or.inl (x0_)) (fun y0_ => y0_.elim (fun x1_ => Or.inr (Or.inl (x1_))) (fun y1_ => y1_.elim (fun x2_ => Or.inr (Or.inr (Or.inl (x2_)))) (fun y2_ => y2_.elim (fun x3_ => Or.inr (Or.inr (Or.inr (Or.inl (x3_))))) (fun y3_ => y3_.elim (fun x4_ => Or.inr (Or.inr (Or.inr (Or.inr (Or.inl (x4_)))))) (fun y4_ => y4_.elim (fun x5_ => Or.inr (Or.inr (Or.inr (Or.inr (Or.inr (Or.inl (x5_))))))) (fun y5_ => y5_.elim (fun x6_ => Or.inr (Or.inr (Or.inr (Or.inr (Or.inr (Or.inr (Or.inl (x6_)))))))) (fun y6_ => Or.inr (Or.inr (Or.inr (Or.inr (Or.inr (Or.inr (Or.inr (y6_))))))))))))))))]), by omega⟩
                  · skip
                    refine dk_iload_n (pc' := 120) hE dX2_afterUnit_119 rfl rfl rfl ?_
                    refine dk_iconst (pc' := 121) hE dX2_afterUnit_120 (by decide) rfl ?_
                    refine dk_icmp_gt (tgt := 128) (pc' := 124) hE dX2_afterUnit_121 (by decide) rfl (fun hc62 => ?_) (fun hc62 => ?_)
                    · skip
                      refine dk_iconst (pc' := 129) hE dX2_afterUnit_128 (by decide) rfl ?_
                      refine dk_goto (tgt := 133) hE dX2_afterUnit_129 (by decide) ?_
                      exact dk_iret (st := []) hE hR dX2_afterUnit_133 ⟨_, rfl, (fun k_ j_ h_ => by rw [hfσ58 k_ j_ (fun w_ => h_ (w_.elim (fun x0_ => Or.inr (Or.inl (x0_))) (fun y0_ => Or.inr (Or.inr (Or.inr (Or.inr (Or.inr (Or.inr (Or.inl (y0_)))))))))), hfσ36 k_ j_ (fun w_ => h_ (w_.elim (fun x0_ => Or.inl (x0_)) (fun y0_ => y0_.elim (fun x1_ => Or.inr (Or.inl (x1_))) (fun y1_ => y1_.elim (fun x2_ => Or.inr (Or.inr (Or.inl (x2_)))) (fun y2_ => y2_.elim (fun x3_ => Or.inr (Or.inr (Or.inr (Or.inl (x3_))))) (fun y3_ => y3_.elim (fun x4_ => Or.inr (Or.inr (Or.inr (Or.inr (Or.inl (x4_)))))) (fun y4_ => y4_.elim (fun x5_ => Or.inr (Or.inr (Or.inr (Or.inr (Or.inr (Or.inl (x5_))))))) (fun y5_ => y5_.elim (fun x6_ => Or.inr (Or.inr (Or.inr (Or.inr (Or.inr (Or.inr (Or.inl (x6_)))))))) (fun y6_ => Or.inr (Or.inr (Or.inr (Or.inr (Or.inr (Or.inr (Or.inr (y6_))))))))))))))))]), by omega⟩
                    · skip
                      refine dk_iconst (pc' := 125) hE dX2_afterUnit_124 (by decide) rfl ?_
                      refine dk_goto (tgt := 133) hE dX2_afterUnit_125 (by decide) ?_
                      exact dk_iret (st := []) hE hR dX2_afterUnit_133 ⟨_, rfl, (fun k_ j_ h_ => by rw [hfσ58 k_ j_ (fun w_ => h_ (w_.elim (fun x0_ => Or.inr (Or.inl (x0_))) (fun y0_ => Or.inr (Or.inr (Or.inr (Or.inr (Or.inr (Or.inr (Or.inl (y0_)))))))))), hfσ36 k_ j_ (fun w_ => h_ (w_.elim (fun x0_ => Or.inl (x0_)) (fun y0_ => y0_.elim (fun x1_ => Or.inr (Or.inl (x1_))) (fun y1_ => y1_.elim (fun x2_ => Or.inr (Or.inr (Or.inl (x2_)))) (fun y2_ => y2_.elim (fun x3_ => Or.inr (Or.inr (Or.inr (Or.inl (x3_))))) (fun y3_ => y3_.elim (fun x4_ => Or.inr (Or.inr (Or.inr (Or.inr (Or.inl (x4_)))))) (fun y4_ => y4_.elim (fun x5_ => Or.inr (Or.inr (Or.inr (Or.inr (Or.inr (Or.inl (x5_))))))) (fun y5_ => y5_.elim (fun x6_ => Or.inr (Or.inr (Or.inr (Or.inr (Or.inr (Or.inr (Or.inl (x6_)))))))) (fun y6_ => Or.inr (Or.inr (Or.inr (Or.inr (Or.inr (Or.inr (Or.inr (y6_))))))))))))))))]), by omega⟩
                · skip
                  refine dk_iconst (pc' := 110) hE dX2_afterUnit_109 (by decide) rfl ?_
                  exact dk_iret (st := []) hE hR dX2_afterUnit_110 ⟨_, rfl, (fun k_ j_ h_ => by rw [hfσ36 k_ j_ (fun w_ => h_ (w_.elim (fun x0_ => Or.inl (x0_)) (fun y0_ => y0_.elim (fun x1_ => Or.inr (Or.inl (x1_))) (fun y1_ => y1_.elim (fun x2_ => Or.inr (Or.inr (Or.inl (x2_)))) (fun y2_ => y2_.elim (fun x3_ => Or.inr (Or.inr (Or.inr (Or.inl (x3_))))) (fun y3_ => y3_.elim (fun x4_ => Or.inr (Or.inr (Or.inr (Or.inr (Or.inl (x4_)))))) (fun y4_ => y4_.elim (fun x5_ => Or.inr (Or.inr (Or.inr (Or.inr (Or.inr (Or.inl (x5_))))))) (fun y5_ => y5_.elim (fun x6_ => Or.inr (Or.inr (Or.inr (Or.inr (Or.inr (Or.inr (Or.inl (x6_)))))))) (fun y6_ => Or.inr (Or.inr (Or.inr (Or.inr (Or.inr (Or.inr (Or.inr (y6_))))))))))))))))]), by omega⟩
        · skip
          refine dk_iconst (pc' := 64) hE dX2_afterUnit_63 (by decide) rfl ?_
          exact dk_iret (st := []) hE hR dX2_afterUnit_64 ⟨_, rfl, (fun k_ j_ h_ => rfl), by omega⟩
    · skip
      refine dk_aload_n (pc' := 31) hE dX2_afterUnit_30 rfl rfl rfl ?_
      refine dk_iconst (pc' := 32) hE dX2_afterUnit_31 (by decide) rfl ?_
      refine dk_cV (pc' := 35) (as := [(0, 1)]) hE lk_X2_106 (ct_X2_release l G hGd 1) dX2_afterUnit_32 rfl is_10 rfl (by decide) (Nat.le_of_ble_eq_true rfl) ⟨rfl, (by omega)⟩ rfl (fun r64 σ63 hr64 _ => ?_)
      obtain ⟨rfl, hfσ63, hpr64⟩ := hr64
      refine dk_aload_n (pc' := 36) hE dX2_afterUnit_35 rfl rfl rfl ?_
      refine dk_cV (pc' := 39) (as := []) hE lk_X2_109 (ct_X2_leaveBracket l G hGd) dX2_afterUnit_36 rfl is_10 rfl (by decide) (Nat.le_of_ble_eq_true rfl) rfl rfl (fun r66 σ65 hr66 _ => ?_)
      obtain ⟨v67, rfl, hfσ65, hpr66⟩ := hr66
      refine dk_if_eq (tgt := 46) (pc' := 42) hE dX2_afterUnit_39 (by decide) rfl (fun hc68 => ?_) (fun hc68 => ?_)
      · skip
        refine dk_iconst (pc' := 47) hE dX2_afterUnit_46 (by decide) rfl ?_
        exact dk_iret (st := []) hE hR dX2_afterUnit_47 ⟨_, rfl, (fun k_ j_ h_ => by rw [hfσ65 k_ j_ (fun w_ => h_ (w_.elim (fun x0_ => Or.inl (x0_)) (fun y0_ => y0_.elim (fun x1_ => Or.inr (Or.inl (x1_))) (fun y1_ => y1_.elim (fun x2_ => Or.inr (Or.inr (Or.inl (x2_)))) (fun y2_ => y2_.elim (fun x3_ => Or.inr (Or.inr (Or.inr (Or.inl (x3_))))) (fun y3_ => y3_.elim (fun x4_ => Or.inr (Or.inr (Or.inr (Or.inr (Or.inl (x4_)))))) (fun y4_ => y4_.elim (fun x5_ => Or.inr (Or.inr (Or.inr (Or.inr (Or.inr (Or.inl (x5_))))))) (fun y5_ => y5_.elim (fun x6_ => Or.inr (Or.inr (Or.inr (Or.inr (Or.inr (Or.inr (Or.inl (x6_)))))))) (fun y6_ => Or.inr (Or.inr (Or.inr (Or.inr (Or.inr (Or.inr (Or.inr (y6_)))))))))))))))), hfσ63 k_ j_ (fun w_ => h_ (w_.elim (fun x0_ => Or.inl (x0_)) (fun y0_ => y0_.elim (fun x1_ => Or.inr (Or.inl (x1_))) (fun y1_ => y1_.elim (fun x2_ => Or.inr (Or.inr (Or.inl (x2_)))) (fun y2_ => y2_.elim (fun x3_ => Or.inr (Or.inr (Or.inr (Or.inl (x3_))))) (fun y3_ => y3_.elim (fun x4_ => Or.inr (Or.inr (Or.inr (Or.inr (Or.inl (x4_)))))) (fun y4_ => y4_.elim (fun x5_ => Or.inr (Or.inr (Or.inr (Or.inr (Or.inr (Or.inl (x5_))))))) (fun y5_ => y5_.elim (fun x6_ => Or.inr (Or.inr (Or.inr (Or.inr (Or.inr (Or.inr (Or.inl (x6_)))))))) (fun y6_ => Or.inr (Or.inr (Or.inr (Or.inr (Or.inr (Or.inr (Or.inr (y6_))))))))))))))))]), by omega⟩
      · skip
        refine dk_iconst (pc' := 43) hE dX2_afterUnit_42 (by decide) rfl ?_
        refine dk_goto (tgt := 47) hE dX2_afterUnit_43 (by decide) ?_
        exact dk_iret (st := []) hE hR dX2_afterUnit_47 ⟨_, rfl, (fun k_ j_ h_ => by rw [hfσ65 k_ j_ (fun w_ => h_ (w_.elim (fun x0_ => Or.inl (x0_)) (fun y0_ => y0_.elim (fun x1_ => Or.inr (Or.inl (x1_))) (fun y1_ => y1_.elim (fun x2_ => Or.inr (Or.inr (Or.inl (x2_)))) (fun y2_ => y2_.elim (fun x3_ => Or.inr (Or.inr (Or.inr (Or.inl (x3_))))) (fun y3_ => y3_.elim (fun x4_ => Or.inr (Or.inr (Or.inr (Or.inr (Or.inl (x4_)))))) (fun y4_ => y4_.elim (fun x5_ => Or.inr (Or.inr (Or.inr (Or.inr (Or.inr (Or.inl (x5_))))))) (fun y5_ => y5_.elim (fun x6_ => Or.inr (Or.inr (Or.inr (Or.inr (Or.inr (Or.inr (Or.inl (x6_)))))))) (fun y6_ => Or.inr (Or.inr (Or.inr (Or.inr (Or.inr (Or.inr (Or.inr (y6_)))))))))))))))), hfσ63 k_ j_ (fun w_ => h_ (w_.elim (fun x0_ => Or.inl (x0_)) (fun y0_ => y0_.elim (fun x1_ => Or.inr (Or.inl (x1_))) (fun y1_ => y1_.elim (fun x2_ => Or.inr (Or.inr (Or.inl (x2_)))) (fun y2_ => y2_.elim (fun x3_ => Or.inr (Or.inr (Or.inr (Or.inl (x3_))))) (fun y3_ => y3_.elim (fun x4_ => Or.inr (Or.inr (Or.inr (Or.inr (Or.inl (x4_)))))) (fun y4_ => y4_.elim (fun x5_ => Or.inr (Or.inr (Or.inr (Or.inr (Or.inr (Or.inl (x5_))))))) (fun y5_ => y5_.elim (fun x6_ => Or.inr (Or.inr (Or.inr (Or.inr (Or.inr (Or.inr (Or.inl (x6_)))))))) (fun y6_ => Or.inr (Or.inr (Or.inr (Or.inr (Or.inr (Or.inr (Or.inr (y6_))))))))))))))))]), by omega⟩
  · skip
    refine dk_aload_n (pc' := 7) hE dX2_afterUnit_6 rfl rfl rfl ?_
    refine dk_iconst (pc' := 8) hE dX2_afterUnit_7 (by decide) rfl ?_
    refine dk_cV (pc' := 11) (as := [(0, 1)]) hE lk_X2_106 (ct_X2_release l G hGd 1) dX2_afterUnit_8 rfl is_10 rfl (by decide) (Nat.le_of_ble_eq_true rfl) ⟨rfl, (by omega)⟩ rfl (fun r70 σ69 hr70 _ => ?_)
    obtain ⟨rfl, hfσ69, hpr70⟩ := hr70
    refine dk_aload_n (pc' := 12) hE dX2_afterUnit_11 rfl rfl rfl ?_
    refine gf_2_2 (pc' := 15) hE fl_X2_74 dX2_afterUnit_12 is_10 rfl (fun v71 hv71 htv71 hbv71 => ?_)
    refine dk_if_ne (tgt := 22) (pc' := 18) hE dX2_afterUnit_15 (by decide) rfl (fun hc72 => ?_) (fun hc72 => ?_)
    · skip
      refine dk_iconst (pc' := 23) hE dX2_afterUnit_22 (by decide) rfl ?_
      exact dk_iret (st := []) hE hR dX2_afterUnit_23 ⟨_, rfl, (fun k_ j_ h_ => by rw [hfσ69 k_ j_ (fun w_ => h_ (w_.elim (fun x0_ => Or.inl (x0_)) (fun y0_ => y0_.elim (fun x1_ => Or.inr (Or.inl (x1_))) (fun y1_ => y1_.elim (fun x2_ => Or.inr (Or.inr (Or.inl (x2_)))) (fun y2_ => y2_.elim (fun x3_ => Or.inr (Or.inr (Or.inr (Or.inl (x3_))))) (fun y3_ => y3_.elim (fun x4_ => Or.inr (Or.inr (Or.inr (Or.inr (Or.inl (x4_)))))) (fun y4_ => y4_.elim (fun x5_ => Or.inr (Or.inr (Or.inr (Or.inr (Or.inr (Or.inl (x5_))))))) (fun y5_ => y5_.elim (fun x6_ => Or.inr (Or.inr (Or.inr (Or.inr (Or.inr (Or.inr (Or.inl (x6_)))))))) (fun y6_ => Or.inr (Or.inr (Or.inr (Or.inr (Or.inr (Or.inr (Or.inr (y6_))))))))))))))))]), by omega⟩
    · skip
      refine dk_iconst (pc' := 19) hE dX2_afterUnit_18 (by decide) rfl ?_
      refine dk_goto (tgt := 23) hE dX2_afterUnit_19 (by decide) ?_
      exact dk_iret (st := []) hE hR dX2_afterUnit_23 ⟨_, rfl, (fun k_ j_ h_ => by rw [hfσ69 k_ j_ (fun w_ => h_ (w_.elim (fun x0_ => Or.inl (x0_)) (fun y0_ => y0_.elim (fun x1_ => Or.inr (Or.inl (x1_))) (fun y1_ => y1_.elim (fun x2_ => Or.inr (Or.inr (Or.inl (x2_)))) (fun y2_ => y2_.elim (fun x3_ => Or.inr (Or.inr (Or.inr (Or.inl (x3_))))) (fun y3_ => y3_.elim (fun x4_ => Or.inr (Or.inr (Or.inr (Or.inr (Or.inl (x4_)))))) (fun y4_ => y4_.elim (fun x5_ => Or.inr (Or.inr (Or.inr (Or.inr (Or.inr (Or.inl (x5_))))))) (fun y5_ => y5_.elim (fun x6_ => Or.inr (Or.inr (Or.inr (Or.inr (Or.inr (Or.inr (Or.inl (x6_)))))))) (fun y6_ => Or.inr (Or.inr (Or.inr (Or.inr (Or.inr (Or.inr (Or.inr (y6_))))))))))))))))]), by omega⟩
set_option maxHeartbeats 4000000 in
set_option maxRecDepth 20000 in
theorem ct_X2_takeExpression (l : Launch) (G : dkG) (hGd : dk_Gd G) : dk_Ct l G dk_Ty yX2_takeExpression cX2_takeExpression 3 (some .boolean) 6 190 190 (fun av σ => av = [(4, 10)] ∧ (13 ≤ σ 10 5 ∧ σ 10 5 ≤ 33 ∧ (σ 10 5 - 13) % 4 = 0)) (fun _ σ r_ σ' => ∃ z : Int, r_ = some (0, z) ∧ (∀ k_ j_ : Int, ¬ (k_ = 6 ∨ (k_ = 10 ∧ j_ = 2) ∨ (k_ = 10 ∧ j_ = 3) ∨ (k_ = 10 ∧ j_ = 4) ∨ (k_ = 10 ∧ j_ = 6) ∨ (k_ = 10 ∧ j_ = 7) ∨ k_ = 11 ∨ (13 ≤ k_ ∧ k_ ≤ 36)) → σ' k_ j_ = σ k_ j_) ∧ (0 ≤ z ∧ z ≤ 1)) := by
  refine dk_enter hGd (by decide) (fun av σ hpre hok => ?_)
  obtain ⟨rfl, hru⟩ := hpre
  refine ⟨Nat.le_of_ble_eq_true rfl, fun E hE hR _ => ?_⟩
  show dk_PJ E 0 [(4, 10), (9, 0), (9, 0)] [] 190 σ
  refine dk_aload_n (pc' := 1) hE dX2_takeExpression_0 rfl rfl rfl ?_
  refine dk_iconst (pc' := 2) hE dX2_takeExpression_1 (by decide) rfl ?_
  refine pf_2_2 (pc' := 5) hE fl_X2_74 dX2_takeExpression_2 is_10 (by omega) rfl (fun σ1 eσ1 => ?_)
  refine dk_aload_n (pc' := 6) hE dX2_takeExpression_5 rfl rfl rfl ?_
  refine dk_iconst (pc' := 7) hE dX2_takeExpression_6 (by decide) rfl ?_
  refine pf_2_3 (pc' := 10) hE fl_X2_77 dX2_takeExpression_7 is_10 trivial rfl (fun σ2 eσ2 => ?_)
  refine dk_iconst (pc' := 11) hE dX2_takeExpression_10 (by decide) rfl ?_
  refine dk_istore_n (pc' := 12) (ls' := [(4, 10), (0, 0), (9, 0)]) hE dX2_takeExpression_11 rfl rfl (by decide) rfl ?_
  refine dk_iconst (pc' := 13) hE dX2_takeExpression_12 (by decide) rfl ?_
  refine dk_istore_n (pc' := 14) (ls' := [(4, 10), (0, 0), (0, 0)]) hE dX2_takeExpression_13 rfl rfl (by decide) rfl ?_
  have lp14 : ∀ (N_ : Nat) (u i : Int) (σ14c : dkS), (2147483648 - i).toNat < N_ → ((∀ k_ j_ : Int, ¬ (k_ = 6 ∨ (k_ = 10 ∧ j_ = 2) ∨ (k_ = 10 ∧ j_ = 3) ∨ (k_ = 10 ∧ j_ = 4) ∨ (k_ = 10 ∧ j_ = 6) ∨ (k_ = 10 ∧ j_ = 7) ∨ k_ = 11 ∨ (13 ≤ k_ ∧ k_ ≤ 36)) → σ14c k_ j_ = σ2 k_ j_)) → (0 ≤ i) → dk_PJ E 14 [(4, 10), (0, u), (0, i)] [] 190 σ14c := by
    intro N14
    induction N14 with
    | zero => intro u i σ14c hm; exact absurd hm (Nat.not_lt_zero _)
    | succ N14 ih14 =>
      intro u i σ14c hm14 hF14 hi
      refine dk_iload_n (pc' := 15) hE dX2_takeExpression_14 rfl rfl rfl ?_
      refine dk_sipush (pc' := 18) hE dX2_takeExpression_15 (by decide) rfl ?_
      refine dk_icmp_gt (tgt := 87) (pc' := 21) hE dX2_takeExpression_18 (by decide) rfl (fun hc3 => ?_) (fun hc3 => ?_)
      · skip
        refine dk_iconst (pc' := 88) hE dX2_takeExpression_87 (by decide) rfl ?_
        exact dk_zret (st := []) hE hR dX2_takeExpression_88 (by omega) ⟨_, rfl, (fun k_ j_ h_ => by rw [hF14 k_ j_ (fun w_ => h_ (w_.elim (fun x0_ => Or.inl (x0_)) (fun y0_ => y0_.elim (fun x1_ => Or.inr (Or.inl (x1_))) (fun y1_ => y1_.elim (fun x2_ => Or.inr (Or.inr (Or.inl (x2_)))) (fun y2_ => y2_.elim (fun x3_ => Or.inr (Or.inr (Or.inr (Or.inl (x3_))))) (fun y3_ => y3_.elim (fun x4_ => Or.inr (Or.inr (Or.inr (Or.inr (Or.inl (x4_)))))) (fun y4_ => y4_.elim (fun x5_ => Or.inr (Or.inr (Or.inr (Or.inr (Or.inr (Or.inl (x5_))))))) (fun y5_ => y5_.elim (fun x6_ => Or.inr (Or.inr (Or.inr (Or.inr (Or.inr (Or.inr (Or.inl (x6_)))))))) (fun y6_ => Or.inr (Or.inr (Or.inr (Or.inr (Or.inr (Or.inr (Or.inr (y6_)))))))))))))))), eσ2, dk_up_n (show ¬ (k_ = 10 ∧ j_ = 3) from fun q_ => h_ (Or.inr (Or.inr (Or.inl (q_))))), eσ1, dk_up_n (show ¬ (k_ = 10 ∧ j_ = 2) from fun q_ => h_ (Or.inr (Or.inl (q_))))]), by omega⟩
      · skip
        refine dk_iload_n (pc' := 22) hE dX2_takeExpression_21 rfl rfl rfl ?_
        refine dk_iconst (pc' := 23) hE dX2_takeExpression_22 (by decide) rfl ?_
        refine dk_icmp_ne (tgt := 40) (pc' := 26) hE dX2_takeExpression_23 (by decide) rfl (fun hc4 => ?_) (fun hc4 => ?_)
        · skip
          refine dk_aload_n (pc' := 41) hE dX2_takeExpression_40 rfl rfl rfl ?_
          refine dk_aload_n (pc' := 42) hE dX2_takeExpression_41 rfl rfl rfl ?_
          refine gf_2_0 (pc' := 45) (w := 6) hE fl_X2_15 dX2_takeExpression_42 is_10 rfl rfl ?_
          refine gf_9_3 (pc' := 48) hE fl_X2_43 dX2_takeExpression_45 is_6 rfl (fun v5 hv5 htv5 hbv5 => ?_)
          refine dk_iload_n (pc' := 49) hE dX2_takeExpression_48 rfl rfl rfl ?_
          have hz6 : σ14c 10 5 = σ 10 5 := by rw [hF14 10 5 (by omega), eσ2, dk_up_n (show ¬ (10 = 10 ∧ 5 = 3) by omega), eσ1, dk_up_n (show ¬ (10 = 10 ∧ 5 = 2) by omega)]
          have hz7 : σ14c 10 5 = σ 10 5 := by rw [hF14 10 5 (by omega), eσ2, dk_up_n (show ¬ (10 = 10 ∧ 5 = 3) by omega), eσ1, dk_up_n (show ¬ (10 = 10 ∧ 5 = 2) by omega)]
          have hz8 : σ14c 10 5 = σ 10 5 := by rw [hF14 10 5 (by omega), eσ2, dk_up_n (show ¬ (10 = 10 ∧ 5 = 3) by omega), eσ1, dk_up_n (show ¬ (10 = 10 ∧ 5 = 2) by omega)]
          refine dk_cV (pc' := 52) (as := [(0, v5), (0, u)]) hE lk_X2_85 (ct_X2_beforeUnit l G hGd v5 u) dX2_takeExpression_49 rfl is_10 rfl (by decide) (Nat.le_of_ble_eq_true rfl) ⟨rfl, (by omega), (by omega)⟩ rfl (fun r10 σ9 hr10 _ => ?_)
          obtain ⟨v11, rfl, hfσ9, hpr10⟩ := hr10
          refine dk_istore_n (pc' := 53) (ls' := [(4, 10), (0, v11), (0, i)]) hE dX2_takeExpression_52 rfl rfl (by decide) rfl ?_
          refine dk_iload_n (pc' := 54) hE dX2_takeExpression_53 rfl rfl rfl ?_
          refine dk_iconst (pc' := 55) hE dX2_takeExpression_54 (by decide) rfl ?_
          refine dk_icmp_eq (tgt := 63) (pc' := 58) hE dX2_takeExpression_55 (by decide) rfl (fun hc12 => ?_) (fun hc12 => ?_)
          · skip
            refine dk_iload_n (pc' := 64) hE dX2_takeExpression_63 rfl rfl rfl ?_
            refine dk_iconst (pc' := 65) hE dX2_takeExpression_64 (by decide) rfl ?_
            refine dk_icmp_ne (tgt := 72) (pc' := 68) hE dX2_takeExpression_65 (by decide) rfl (fun hc13 => ?_) (fun hc13 => ?_)
            · skip
              refine dk_iconst (pc' := 73) hE dX2_takeExpression_72 (by decide) rfl ?_
              exact dk_zret (st := []) hE hR dX2_takeExpression_73 (by omega) ⟨_, rfl, (fun k_ j_ h_ => by rw [hfσ9 k_ j_ (fun w_ => h_ (w_.elim (fun x0_ => Or.inl (x0_)) (fun y0_ => y0_.elim (fun x1_ => Or.inr (Or.inl (x1_))) (fun y1_ => y1_.elim (fun x2_ => Or.inr (Or.inr (Or.inl (x2_)))) (fun y2_ => y2_.elim (fun x3_ => Or.inr (Or.inr (Or.inr (Or.inl (x3_))))) (fun y3_ => y3_.elim (fun x4_ => Or.inr (Or.inr (Or.inr (Or.inr (Or.inl (x4_)))))) (fun y4_ => y4_.elim (fun x5_ => Or.inr (Or.inr (Or.inr (Or.inr (Or.inr (Or.inl (x5_))))))) (fun y5_ => y5_.elim (fun x6_ => Or.inr (Or.inr (Or.inr (Or.inr (Or.inr (Or.inr (Or.inl (x6_)))))))) (fun y6_ => Or.inr (Or.inr (Or.inr (Or.inr (Or.inr (Or.inr (Or.inr (y6_)))))))))))))))), hF14 k_ j_ (fun w_ => h_ (w_.elim (fun x0_ => Or.inl (x0_)) (fun y0_ => y0_.elim (fun x1_ => Or.inr (Or.inl (x1_))) (fun y1_ => y1_.elim (fun x2_ => Or.inr (Or.inr (Or.inl (x2_)))) (fun y2_ => y2_.elim (fun x3_ => Or.inr (Or.inr (Or.inr (Or.inl (x3_))))) (fun y3_ => y3_.elim (fun x4_ => Or.inr (Or.inr (Or.inr (Or.inr (Or.inl (x4_)))))) (fun y4_ => y4_.elim (fun x5_ => Or.inr (Or.inr (Or.inr (Or.inr (Or.inr (Or.inl (x5_))))))) (fun y5_ => y5_.elim (fun x6_ => Or.inr (Or.inr (Or.inr (Or.inr (Or.inr (Or.inr (Or.inl (x6_)))))))) (fun y6_ => Or.inr (Or.inr (Or.inr (Or.inr (Or.inr (Or.inr (Or.inr (y6_)))))))))))))))), eσ2, dk_up_n (show ¬ (k_ = 10 ∧ j_ = 3) from fun q_ => h_ (Or.inr (Or.inr (Or.inl (q_))))), eσ1, dk_up_n (show ¬ (k_ = 10 ∧ j_ = 2) from fun q_ => h_ (Or.inr (Or.inl (q_))))]), by omega⟩
            · skip
              refine dk_iconst (pc' := 69) hE dX2_takeExpression_68 (by decide) rfl ?_
              refine dk_goto (tgt := 73) hE dX2_takeExpression_69 (by decide) ?_
              exact dk_zret (st := []) hE hR dX2_takeExpression_73 (by omega) ⟨_, rfl, (fun k_ j_ h_ => by rw [hfσ9 k_ j_ (fun w_ => h_ (w_.elim (fun x0_ => Or.inl (x0_)) (fun y0_ => y0_.elim (fun x1_ => Or.inr (Or.inl (x1_))) (fun y1_ => y1_.elim (fun x2_ => Or.inr (Or.inr (Or.inl (x2_)))) (fun y2_ => y2_.elim (fun x3_ => Or.inr (Or.inr (Or.inr (Or.inl (x3_))))) (fun y3_ => y3_.elim (fun x4_ => Or.inr (Or.inr (Or.inr (Or.inr (Or.inl (x4_)))))) (fun y4_ => y4_.elim (fun x5_ => Or.inr (Or.inr (Or.inr (Or.inr (Or.inr (Or.inl (x5_))))))) (fun y5_ => y5_.elim (fun x6_ => Or.inr (Or.inr (Or.inr (Or.inr (Or.inr (Or.inr (Or.inl (x6_)))))))) (fun y6_ => Or.inr (Or.inr (Or.inr (Or.inr (Or.inr (Or.inr (Or.inr (y6_)))))))))))))))), hF14 k_ j_ (fun w_ => h_ (w_.elim (fun x0_ => Or.inl (x0_)) (fun y0_ => y0_.elim (fun x1_ => Or.inr (Or.inl (x1_))) (fun y1_ => y1_.elim (fun x2_ => Or.inr (Or.inr (Or.inl (x2_)))) (fun y2_ => y2_.elim (fun x3_ => Or.inr (Or.inr (Or.inr (Or.inl (x3_))))) (fun y3_ => y3_.elim (fun x4_ => Or.inr (Or.inr (Or.inr (Or.inr (Or.inl (x4_)))))) (fun y4_ => y4_.elim (fun x5_ => Or.inr (Or.inr (Or.inr (Or.inr (Or.inr (Or.inl (x5_))))))) (fun y5_ => y5_.elim (fun x6_ => Or.inr (Or.inr (Or.inr (Or.inr (Or.inr (Or.inr (Or.inl (x6_)))))))) (fun y6_ => Or.inr (Or.inr (Or.inr (Or.inr (Or.inr (Or.inr (Or.inr (y6_)))))))))))))))), eσ2, dk_up_n (show ¬ (k_ = 10 ∧ j_ = 3) from fun q_ => h_ (Or.inr (Or.inr (Or.inl (q_))))), eσ1, dk_up_n (show ¬ (k_ = 10 ∧ j_ = 2) from fun q_ => h_ (Or.inr (Or.inl (q_))))]), by omega⟩
          · skip
            refine dk_iload_n (pc' := 59) hE dX2_takeExpression_58 rfl rfl rfl ?_
            refine dk_iconst (pc' := 60) hE dX2_takeExpression_59 (by decide) rfl ?_
            refine dk_icmp_ne (tgt := 74) (pc' := 63) hE dX2_takeExpression_60 (by decide) rfl (fun hc14 => ?_) (fun hc14 => ?_)
            · skip
              refine dk_aload_n (pc' := 75) hE dX2_takeExpression_74 rfl rfl rfl ?_
              refine gf_2_0 (pc' := 78) (w := 6) hE fl_X2_15 dX2_takeExpression_75 is_10 rfl rfl ?_
              refine dk_cV (pc' := 81) (as := []) hE lk_X2_61 (ct_X9_advance l G hGd) dX2_takeExpression_78 rfl is_6 rfl (by decide) (Nat.le_of_ble_eq_true rfl) rfl rfl (fun r16 σ15 hr16 _ => ?_)
              obtain ⟨rfl, hfσ15, hpr16⟩ := hr16
              obtain ⟨v17, hv17⟩ : ∃ z : Int, z = i + 1 := ⟨_, rfl⟩
              refine dk_iinc (pc' := 84) (ls' := [(4, 10), (0, v11), (0, v17)]) hE dX2_takeExpression_81 rfl hv17.symm (by omega) rfl (by decide) rfl ?_
              refine dk_goto (tgt := 14) hE dX2_takeExpression_84 (by decide) ?_
              exact ih14 v11 v17 σ15 (by omega) (fun k_ j_ h_ => by rw [hfσ15 k_ j_ (fun w_ => h_ (Or.inl (w_))), hfσ9 k_ j_ (fun w_ => h_ (w_.elim (fun x0_ => Or.inl (x0_)) (fun y0_ => y0_.elim (fun x1_ => Or.inr (Or.inl (x1_))) (fun y1_ => y1_.elim (fun x2_ => Or.inr (Or.inr (Or.inl (x2_)))) (fun y2_ => y2_.elim (fun x3_ => Or.inr (Or.inr (Or.inr (Or.inl (x3_))))) (fun y3_ => y3_.elim (fun x4_ => Or.inr (Or.inr (Or.inr (Or.inr (Or.inl (x4_)))))) (fun y4_ => y4_.elim (fun x5_ => Or.inr (Or.inr (Or.inr (Or.inr (Or.inr (Or.inl (x5_))))))) (fun y5_ => y5_.elim (fun x6_ => Or.inr (Or.inr (Or.inr (Or.inr (Or.inr (Or.inr (Or.inl (x6_)))))))) (fun y6_ => Or.inr (Or.inr (Or.inr (Or.inr (Or.inr (Or.inr (Or.inr (y6_)))))))))))))))), hF14 k_ j_ (fun w_ => h_ (w_.elim (fun x0_ => Or.inl (x0_)) (fun y0_ => y0_.elim (fun x1_ => Or.inr (Or.inl (x1_))) (fun y1_ => y1_.elim (fun x2_ => Or.inr (Or.inr (Or.inl (x2_)))) (fun y2_ => y2_.elim (fun x3_ => Or.inr (Or.inr (Or.inr (Or.inl (x3_))))) (fun y3_ => y3_.elim (fun x4_ => Or.inr (Or.inr (Or.inr (Or.inr (Or.inl (x4_)))))) (fun y4_ => y4_.elim (fun x5_ => Or.inr (Or.inr (Or.inr (Or.inr (Or.inr (Or.inl (x5_))))))) (fun y5_ => y5_.elim (fun x6_ => Or.inr (Or.inr (Or.inr (Or.inr (Or.inr (Or.inr (Or.inl (x6_)))))))) (fun y6_ => Or.inr (Or.inr (Or.inr (Or.inr (Or.inr (Or.inr (Or.inr (y6_))))))))))))))))]) (by omega)
            · skip
              refine dk_iload_n (pc' := 64) hE dX2_takeExpression_63 rfl rfl rfl ?_
              refine dk_iconst (pc' := 65) hE dX2_takeExpression_64 (by decide) rfl ?_
              refine dk_icmp_ne (tgt := 72) (pc' := 68) hE dX2_takeExpression_65 (by decide) rfl (fun hc18 => ?_) (fun hc18 => ?_)
              · skip
                refine dk_iconst (pc' := 73) hE dX2_takeExpression_72 (by decide) rfl ?_
                exact dk_zret (st := []) hE hR dX2_takeExpression_73 (by omega) ⟨_, rfl, (fun k_ j_ h_ => by rw [hfσ9 k_ j_ (fun w_ => h_ (w_.elim (fun x0_ => Or.inl (x0_)) (fun y0_ => y0_.elim (fun x1_ => Or.inr (Or.inl (x1_))) (fun y1_ => y1_.elim (fun x2_ => Or.inr (Or.inr (Or.inl (x2_)))) (fun y2_ => y2_.elim (fun x3_ => Or.inr (Or.inr (Or.inr (Or.inl (x3_))))) (fun y3_ => y3_.elim (fun x4_ => Or.inr (Or.inr (Or.inr (Or.inr (Or.inl (x4_)))))) (fun y4_ => y4_.elim (fun x5_ => Or.inr (Or.inr (Or.inr (Or.inr (Or.inr (Or.inl (x5_))))))) (fun y5_ => y5_.elim (fun x6_ => Or.inr (Or.inr (Or.inr (Or.inr (Or.inr (Or.inr (Or.inl (x6_)))))))) (fun y6_ => Or.inr (Or.inr (Or.inr (Or.inr (Or.inr (Or.inr (Or.inr (y6_)))))))))))))))), hF14 k_ j_ (fun w_ => h_ (w_.elim (fun x0_ => Or.inl (x0_)) (fun y0_ => y0_.elim (fun x1_ => Or.inr (Or.inl (x1_))) (fun y1_ => y1_.elim (fun x2_ => Or.inr (Or.inr (Or.inl (x2_)))) (fun y2_ => y2_.elim (fun x3_ => Or.inr (Or.inr (Or.inr (Or.inl (x3_))))) (fun y3_ => y3_.elim (fun x4_ => Or.inr (Or.inr (Or.inr (Or.inr (Or.inl (x4_)))))) (fun y4_ => y4_.elim (fun x5_ => Or.inr (Or.inr (Or.inr (Or.inr (Or.inr (Or.inl (x5_))))))) (fun y5_ => y5_.elim (fun x6_ => Or.inr (Or.inr (Or.inr (Or.inr (Or.inr (Or.inr (Or.inl (x6_)))))))) (fun y6_ => Or.inr (Or.inr (Or.inr (Or.inr (Or.inr (Or.inr (Or.inr (y6_)))))))))))))))), eσ2, dk_up_n (show ¬ (k_ = 10 ∧ j_ = 3) from fun q_ => h_ (Or.inr (Or.inr (Or.inl (q_))))), eσ1, dk_up_n (show ¬ (k_ = 10 ∧ j_ = 2) from fun q_ => h_ (Or.inr (Or.inl (q_))))]), by omega⟩
              · skip
                refine dk_iconst (pc' := 69) hE dX2_takeExpression_68 (by decide) rfl ?_
                refine dk_goto (tgt := 73) hE dX2_takeExpression_69 (by decide) ?_
                exact dk_zret (st := []) hE hR dX2_takeExpression_73 (by omega) ⟨_, rfl, (fun k_ j_ h_ => by rw [hfσ9 k_ j_ (fun w_ => h_ (w_.elim (fun x0_ => Or.inl (x0_)) (fun y0_ => y0_.elim (fun x1_ => Or.inr (Or.inl (x1_))) (fun y1_ => y1_.elim (fun x2_ => Or.inr (Or.inr (Or.inl (x2_)))) (fun y2_ => y2_.elim (fun x3_ => Or.inr (Or.inr (Or.inr (Or.inl (x3_))))) (fun y3_ => y3_.elim (fun x4_ => Or.inr (Or.inr (Or.inr (Or.inr (Or.inl (x4_)))))) (fun y4_ => y4_.elim (fun x5_ => Or.inr (Or.inr (Or.inr (Or.inr (Or.inr (Or.inl (x5_))))))) (fun y5_ => y5_.elim (fun x6_ => Or.inr (Or.inr (Or.inr (Or.inr (Or.inr (Or.inr (Or.inl (x6_)))))))) (fun y6_ => Or.inr (Or.inr (Or.inr (Or.inr (Or.inr (Or.inr (Or.inr (y6_)))))))))))))))), hF14 k_ j_ (fun w_ => h_ (w_.elim (fun x0_ => Or.inl (x0_)) (fun y0_ => y0_.elim (fun x1_ => Or.inr (Or.inl (x1_))) (fun y1_ => y1_.elim (fun x2_ => Or.inr (Or.inr (Or.inl (x2_)))) (fun y2_ => y2_.elim (fun x3_ => Or.inr (Or.inr (Or.inr (Or.inl (x3_))))) (fun y3_ => y3_.elim (fun x4_ => Or.inr (Or.inr (Or.inr (Or.inr (Or.inl (x4_)))))) (fun y4_ => y4_.elim (fun x5_ => Or.inr (Or.inr (Or.inr (Or.inr (Or.inr (Or.inl (x5_))))))) (fun y5_ => y5_.elim (fun x6_ => Or.inr (Or.inr (Or.inr (Or.inr (Or.inr (Or.inr (Or.inl (x6_)))))))) (fun y6_ => Or.inr (Or.inr (Or.inr (Or.inr (Or.inr (Or.inr (Or.inr (y6_)))))))))))))))), eσ2, dk_up_n (show ¬ (k_ = 10 ∧ j_ = 3) from fun q_ => h_ (Or.inr (Or.inr (Or.inl (q_))))), eσ1, dk_up_n (show ¬ (k_ = 10 ∧ j_ = 2) from fun q_ => h_ (Or.inr (Or.inl (q_))))]), by omega⟩
        · skip
          refine dk_aload_n (pc' := 27) hE dX2_takeExpression_26 rfl rfl rfl ?_
          refine dk_aload_n (pc' := 28) hE dX2_takeExpression_27 rfl rfl rfl ?_
          refine gf_2_0 (pc' := 31) (w := 6) hE fl_X2_15 dX2_takeExpression_28 is_10 rfl rfl ?_
          refine gf_9_3 (pc' := 34) hE fl_X2_43 dX2_takeExpression_31 is_6 rfl (fun v19 hv19 htv19 hbv19 => ?_)
          have hz20 : σ14c 10 5 = σ 10 5 := by rw [hF14 10 5 (by omega), eσ2, dk_up_n (show ¬ (10 = 10 ∧ 5 = 3) by omega), eσ1, dk_up_n (show ¬ (10 = 10 ∧ 5 = 2) by omega)]
          have hz21 : σ14c 10 5 = σ 10 5 := by rw [hF14 10 5 (by omega), eσ2, dk_up_n (show ¬ (10 = 10 ∧ 5 = 3) by omega), eσ1, dk_up_n (show ¬ (10 = 10 ∧ 5 = 2) by omega)]
          have hz22 : σ14c 10 5 = σ 10 5 := by rw [hF14 10 5 (by omega), eσ2, dk_up_n (show ¬ (10 = 10 ∧ 5 = 3) by omega), eσ1, dk_up_n (show ¬ (10 = 10 ∧ 5 = 2) by omega)]
          refine dk_cV (pc' := 37) (as := [(0, v19)]) hE lk_X2_82 (ct_X2_afterUnit l G hGd v19) dX2_takeExpression_34 rfl is_10 rfl (by decide) (Nat.le_of_ble_eq_true rfl) ⟨rfl, (by omega), (by omega)⟩ rfl (fun r24 σ23 hr24 _ => ?_)
          obtain ⟨v25, rfl, hfσ23, hpr24⟩ := hr24
          refine dk_goto (tgt := 52) hE dX2_takeExpression_37 (by decide) ?_
          refine dk_istore_n (pc' := 53) (ls' := [(4, 10), (0, v25), (0, i)]) hE dX2_takeExpression_52 rfl rfl (by decide) rfl ?_
          refine dk_iload_n (pc' := 54) hE dX2_takeExpression_53 rfl rfl rfl ?_
          refine dk_iconst (pc' := 55) hE dX2_takeExpression_54 (by decide) rfl ?_
          refine dk_icmp_eq (tgt := 63) (pc' := 58) hE dX2_takeExpression_55 (by decide) rfl (fun hc26 => ?_) (fun hc26 => ?_)
          · skip
            refine dk_iload_n (pc' := 64) hE dX2_takeExpression_63 rfl rfl rfl ?_
            refine dk_iconst (pc' := 65) hE dX2_takeExpression_64 (by decide) rfl ?_
            refine dk_icmp_ne (tgt := 72) (pc' := 68) hE dX2_takeExpression_65 (by decide) rfl (fun hc27 => ?_) (fun hc27 => ?_)
            · skip
              refine dk_iconst (pc' := 73) hE dX2_takeExpression_72 (by decide) rfl ?_
              exact dk_zret (st := []) hE hR dX2_takeExpression_73 (by omega) ⟨_, rfl, (fun k_ j_ h_ => by rw [hfσ23 k_ j_ (fun w_ => h_ (w_.elim (fun x0_ => Or.inl (x0_)) (fun y0_ => y0_.elim (fun x1_ => Or.inr (Or.inl (x1_))) (fun y1_ => y1_.elim (fun x2_ => Or.inr (Or.inr (Or.inl (x2_)))) (fun y2_ => y2_.elim (fun x3_ => Or.inr (Or.inr (Or.inr (Or.inl (x3_))))) (fun y3_ => y3_.elim (fun x4_ => Or.inr (Or.inr (Or.inr (Or.inr (Or.inl (x4_)))))) (fun y4_ => y4_.elim (fun x5_ => Or.inr (Or.inr (Or.inr (Or.inr (Or.inr (Or.inl (x5_))))))) (fun y5_ => y5_.elim (fun x6_ => Or.inr (Or.inr (Or.inr (Or.inr (Or.inr (Or.inr (Or.inl (x6_)))))))) (fun y6_ => Or.inr (Or.inr (Or.inr (Or.inr (Or.inr (Or.inr (Or.inr (y6_)))))))))))))))), hF14 k_ j_ (fun w_ => h_ (w_.elim (fun x0_ => Or.inl (x0_)) (fun y0_ => y0_.elim (fun x1_ => Or.inr (Or.inl (x1_))) (fun y1_ => y1_.elim (fun x2_ => Or.inr (Or.inr (Or.inl (x2_)))) (fun y2_ => y2_.elim (fun x3_ => Or.inr (Or.inr (Or.inr (Or.inl (x3_))))) (fun y3_ => y3_.elim (fun x4_ => Or.inr (Or.inr (Or.inr (Or.inr (Or.inl (x4_)))))) (fun y4_ => y4_.elim (fun x5_ => Or.inr (Or.inr (Or.inr (Or.inr (Or.inr (Or.inl (x5_))))))) (fun y5_ => y5_.elim (fun x6_ => Or.inr (Or.inr (Or.inr (Or.inr (Or.inr (Or.inr (Or.inl (x6_)))))))) (fun y6_ => Or.inr (Or.inr (Or.inr (Or.inr (Or.inr (Or.inr (Or.inr (y6_)))))))))))))))), eσ2, dk_up_n (show ¬ (k_ = 10 ∧ j_ = 3) from fun q_ => h_ (Or.inr (Or.inr (Or.inl (q_))))), eσ1, dk_up_n (show ¬ (k_ = 10 ∧ j_ = 2) from fun q_ => h_ (Or.inr (Or.inl (q_))))]), by omega⟩
            · skip
              refine dk_iconst (pc' := 69) hE dX2_takeExpression_68 (by decide) rfl ?_
              refine dk_goto (tgt := 73) hE dX2_takeExpression_69 (by decide) ?_
              exact dk_zret (st := []) hE hR dX2_takeExpression_73 (by omega) ⟨_, rfl, (fun k_ j_ h_ => by rw [hfσ23 k_ j_ (fun w_ => h_ (w_.elim (fun x0_ => Or.inl (x0_)) (fun y0_ => y0_.elim (fun x1_ => Or.inr (Or.inl (x1_))) (fun y1_ => y1_.elim (fun x2_ => Or.inr (Or.inr (Or.inl (x2_)))) (fun y2_ => y2_.elim (fun x3_ => Or.inr (Or.inr (Or.inr (Or.inl (x3_))))) (fun y3_ => y3_.elim (fun x4_ => Or.inr (Or.inr (Or.inr (Or.inr (Or.inl (x4_)))))) (fun y4_ => y4_.elim (fun x5_ => Or.inr (Or.inr (Or.inr (Or.inr (Or.inr (Or.inl (x5_))))))) (fun y5_ => y5_.elim (fun x6_ => Or.inr (Or.inr (Or.inr (Or.inr (Or.inr (Or.inr (Or.inl (x6_)))))))) (fun y6_ => Or.inr (Or.inr (Or.inr (Or.inr (Or.inr (Or.inr (Or.inr (y6_)))))))))))))))), hF14 k_ j_ (fun w_ => h_ (w_.elim (fun x0_ => Or.inl (x0_)) (fun y0_ => y0_.elim (fun x1_ => Or.inr (Or.inl (x1_))) (fun y1_ => y1_.elim (fun x2_ => Or.inr (Or.inr (Or.inl (x2_)))) (fun y2_ => y2_.elim (fun x3_ => Or.inr (Or.inr (Or.inr (Or.inl (x3_))))) (fun y3_ => y3_.elim (fun x4_ => Or.inr (Or.inr (Or.inr (Or.inr (Or.inl (x4_)))))) (fun y4_ => y4_.elim (fun x5_ => Or.inr (Or.inr (Or.inr (Or.inr (Or.inr (Or.inl (x5_))))))) (fun y5_ => y5_.elim (fun x6_ => Or.inr (Or.inr (Or.inr (Or.inr (Or.inr (Or.inr (Or.inl (x6_)))))))) (fun y6_ => Or.inr (Or.inr (Or.inr (Or.inr (Or.inr (Or.inr (Or.inr (y6_)))))))))))))))), eσ2, dk_up_n (show ¬ (k_ = 10 ∧ j_ = 3) from fun q_ => h_ (Or.inr (Or.inr (Or.inl (q_))))), eσ1, dk_up_n (show ¬ (k_ = 10 ∧ j_ = 2) from fun q_ => h_ (Or.inr (Or.inl (q_))))]), by omega⟩
          · skip
            refine dk_iload_n (pc' := 59) hE dX2_takeExpression_58 rfl rfl rfl ?_
            refine dk_iconst (pc' := 60) hE dX2_takeExpression_59 (by decide) rfl ?_
            refine dk_icmp_ne (tgt := 74) (pc' := 63) hE dX2_takeExpression_60 (by decide) rfl (fun hc28 => ?_) (fun hc28 => ?_)
            · skip
              refine dk_aload_n (pc' := 75) hE dX2_takeExpression_74 rfl rfl rfl ?_
              refine gf_2_0 (pc' := 78) (w := 6) hE fl_X2_15 dX2_takeExpression_75 is_10 rfl rfl ?_
              refine dk_cV (pc' := 81) (as := []) hE lk_X2_61 (ct_X9_advance l G hGd) dX2_takeExpression_78 rfl is_6 rfl (by decide) (Nat.le_of_ble_eq_true rfl) rfl rfl (fun r30 σ29 hr30 _ => ?_)
              obtain ⟨rfl, hfσ29, hpr30⟩ := hr30
              obtain ⟨v31, hv31⟩ : ∃ z : Int, z = i + 1 := ⟨_, rfl⟩
              refine dk_iinc (pc' := 84) (ls' := [(4, 10), (0, v25), (0, v31)]) hE dX2_takeExpression_81 rfl hv31.symm (by omega) rfl (by decide) rfl ?_
              refine dk_goto (tgt := 14) hE dX2_takeExpression_84 (by decide) ?_
              exact ih14 v25 v31 σ29 (by omega) (fun k_ j_ h_ => by rw [hfσ29 k_ j_ (fun w_ => h_ (Or.inl (w_))), hfσ23 k_ j_ (fun w_ => h_ (w_.elim (fun x0_ => Or.inl (x0_)) (fun y0_ => y0_.elim (fun x1_ => Or.inr (Or.inl (x1_))) (fun y1_ => y1_.elim (fun x2_ => Or.inr (Or.inr (Or.inl (x2_)))) (fun y2_ => y2_.elim (fun x3_ => Or.inr (Or.inr (Or.inr (Or.inl (x3_))))) (fun y3_ => y3_.elim (fun x4_ => Or.inr (Or.inr (Or.inr (Or.inr (Or.inl (x4_)))))) (fun y4_ => y4_.elim (fun x5_ => Or.inr (Or.inr (Or.inr (Or.inr (Or.inr (Or.inl (x5_))))))) (fun y5_ => y5_.elim (fun x6_ => Or.inr (Or.inr (Or.inr (Or.inr (Or.inr (Or.inr (Or.inl (x6_)))))))) (fun y6_ => Or.inr (Or.inr (Or.inr (Or.inr (Or.inr (Or.inr (Or.inr (y6_)))))))))))))))), hF14 k_ j_ (fun w_ => h_ (w_.elim (fun x0_ => Or.inl (x0_)) (fun y0_ => y0_.elim (fun x1_ => Or.inr (Or.inl (x1_))) (fun y1_ => y1_.elim (fun x2_ => Or.inr (Or.inr (Or.inl (x2_)))) (fun y2_ => y2_.elim (fun x3_ => Or.inr (Or.inr (Or.inr (Or.inl (x3_))))) (fun y3_ => y3_.elim (fun x4_ => Or.inr (Or.inr (Or.inr (Or.inr (Or.inl (x4_)))))) (fun y4_ => y4_.elim (fun x5_ => Or.inr (Or.inr (Or.inr (Or.inr (Or.inr (Or.inl (x5_))))))) (fun y5_ => y5_.elim (fun x6_ => Or.inr (Or.inr (Or.inr (Or.inr (Or.inr (Or.inr (Or.inl (x6_)))))))) (fun y6_ => Or.inr (Or.inr (Or.inr (Or.inr (Or.inr (Or.inr (Or.inr (y6_))))))))))))))))]) (by omega)
            · skip
              refine dk_iload_n (pc' := 64) hE dX2_takeExpression_63 rfl rfl rfl ?_
              refine dk_iconst (pc' := 65) hE dX2_takeExpression_64 (by decide) rfl ?_
              refine dk_icmp_ne (tgt := 72) (pc' := 68) hE dX2_takeExpression_65 (by decide) rfl (fun hc32 => ?_) (fun hc32 => ?_)
              · skip
                refine dk_iconst (pc' := 73) hE dX2_takeExpression_72 (by decide) rfl ?_
                exact dk_zret (st := []) hE hR dX2_takeExpression_73 (by omega) ⟨_, rfl, (fun k_ j_ h_ => by rw [hfσ23 k_ j_ (fun w_ => h_ (w_.elim (fun x0_ => Or.inl (x0_)) (fun y0_ => y0_.elim (fun x1_ => Or.inr (Or.inl (x1_))) (fun y1_ => y1_.elim (fun x2_ => Or.inr (Or.inr (Or.inl (x2_)))) (fun y2_ => y2_.elim (fun x3_ => Or.inr (Or.inr (Or.inr (Or.inl (x3_))))) (fun y3_ => y3_.elim (fun x4_ => Or.inr (Or.inr (Or.inr (Or.inr (Or.inl (x4_)))))) (fun y4_ => y4_.elim (fun x5_ => Or.inr (Or.inr (Or.inr (Or.inr (Or.inr (Or.inl (x5_))))))) (fun y5_ => y5_.elim (fun x6_ => Or.inr (Or.inr (Or.inr (Or.inr (Or.inr (Or.inr (Or.inl (x6_)))))))) (fun y6_ => Or.inr (Or.inr (Or.inr (Or.inr (Or.inr (Or.inr (Or.inr (y6_)))))))))))))))), hF14 k_ j_ (fun w_ => h_ (w_.elim (fun x0_ => Or.inl (x0_)) (fun y0_ => y0_.elim (fun x1_ => Or.inr (Or.inl (x1_))) (fun y1_ => y1_.elim (fun x2_ => Or.inr (Or.inr (Or.inl (x2_)))) (fun y2_ => y2_.elim (fun x3_ => Or.inr (Or.inr (Or.inr (Or.inl (x3_))))) (fun y3_ => y3_.elim (fun x4_ => Or.inr (Or.inr (Or.inr (Or.inr (Or.inl (x4_)))))) (fun y4_ => y4_.elim (fun x5_ => Or.inr (Or.inr (Or.inr (Or.inr (Or.inr (Or.inl (x5_))))))) (fun y5_ => y5_.elim (fun x6_ => Or.inr (Or.inr (Or.inr (Or.inr (Or.inr (Or.inr (Or.inl (x6_)))))))) (fun y6_ => Or.inr (Or.inr (Or.inr (Or.inr (Or.inr (Or.inr (Or.inr (y6_)))))))))))))))), eσ2, dk_up_n (show ¬ (k_ = 10 ∧ j_ = 3) from fun q_ => h_ (Or.inr (Or.inr (Or.inl (q_))))), eσ1, dk_up_n (show ¬ (k_ = 10 ∧ j_ = 2) from fun q_ => h_ (Or.inr (Or.inl (q_))))]), by omega⟩
              · skip
                refine dk_iconst (pc' := 69) hE dX2_takeExpression_68 (by decide) rfl ?_
                refine dk_goto (tgt := 73) hE dX2_takeExpression_69 (by decide) ?_
                exact dk_zret (st := []) hE hR dX2_takeExpression_73 (by omega) ⟨_, rfl, (fun k_ j_ h_ => by rw [hfσ23 k_ j_ (fun w_ => h_ (w_.elim (fun x0_ => Or.inl (x0_)) (fun y0_ => y0_.elim (fun x1_ => Or.inr (Or.inl (x1_))) (fun y1_ => y1_.elim (fun x2_ => Or.inr (Or.inr (Or.inl (x2_)))) (fun y2_ => y2_.elim (fun x3_ => Or.inr (Or.inr (Or.inr (Or.inl (x3_))))) (fun y3_ => y3_.elim (fun x4_ => Or.inr (Or.inr (Or.inr (Or.inr (Or.inl (x4_)))))) (fun y4_ => y4_.elim (fun x5_ => Or.inr (Or.inr (Or.inr (Or.inr (Or.inr (Or.inl (x5_))))))) (fun y5_ => y5_.elim (fun x6_ => Or.inr (Or.inr (Or.inr (Or.inr (Or.inr (Or.inr (Or.inl (x6_)))))))) (fun y6_ => Or.inr (Or.inr (Or.inr (Or.inr (Or.inr (Or.inr (Or.inr (y6_)))))))))))))))), hF14 k_ j_ (fun w_ => h_ (w_.elim (fun x0_ => Or.inl (x0_)) (fun y0_ => y0_.elim (fun x1_ => Or.inr (Or.inl (x1_))) (fun y1_ => y1_.elim (fun x2_ => Or.inr (Or.inr (Or.inl (x2_)))) (fun y2_ => y2_.elim (fun x3_ => Or.inr (Or.inr (Or.inr (Or.inl (x3_))))) (fun y3_ => y3_.elim (fun x4_ => Or.inr (Or.inr (Or.inr (Or.inr (Or.inl (x4_)))))) (fun y4_ => y4_.elim (fun x5_ => Or.inr (Or.inr (Or.inr (Or.inr (Or.inr (Or.inl (x5_))))))) (fun y5_ => y5_.elim (fun x6_ => Or.inr (Or.inr (Or.inr (Or.inr (Or.inr (Or.inr (Or.inl (x6_)))))))) (fun y6_ => Or.inr (Or.inr (Or.inr (Or.inr (Or.inr (Or.inr (Or.inr (y6_)))))))))))))))), eσ2, dk_up_n (show ¬ (k_ = 10 ∧ j_ = 3) from fun q_ => h_ (Or.inr (Or.inr (Or.inl (q_))))), eσ1, dk_up_n (show ¬ (k_ = 10 ∧ j_ = 2) from fun q_ => h_ (Or.inr (Or.inl (q_))))]), by omega⟩
  exact lp14 _ 0 0 σ2 (Nat.lt_succ_self _) (fun k_ j_ h_ => rfl) (by omega)
set_option maxHeartbeats 4000000 in
set_option maxRecDepth 20000 in
theorem ct_X2_takeLine (l : Launch) (G : dkG) (hGd : dk_Gd G) : dk_Ct l G dk_Ty yX2_takeLine cX2_takeLine 2 (some .boolean) 7 190 190 (fun av σ => av = [(4, 10)] ∧ (13 ≤ σ 10 5 ∧ σ 10 5 ≤ 33 ∧ (σ 10 5 - 13) % 4 = 0)) (fun _ σ r_ σ' => ∃ z : Int, r_ = some (0, z) ∧ (∀ k_ j_ : Int, ¬ (k_ = 6 ∨ (k_ = 10 ∧ j_ = 2) ∨ (k_ = 10 ∧ j_ = 3) ∨ (k_ = 10 ∧ j_ = 4) ∨ (k_ = 10 ∧ j_ = 6) ∨ (k_ = 10 ∧ j_ = 7) ∨ k_ = 11 ∨ (13 ≤ k_ ∧ k_ ≤ 36)) → σ' k_ j_ = σ k_ j_) ∧ (0 ≤ z ∧ z ≤ 1)) := by
  refine dk_enter hGd (by decide) (fun av σ hpre hok => ?_)
  obtain ⟨rfl, hru⟩ := hpre
  refine ⟨Nat.le_of_ble_eq_true rfl, fun E hE hR _ => ?_⟩
  show dk_PJ E 0 [(4, 10), (9, 0)] [] 190 σ
  refine dk_aload_n (pc' := 1) hE dX2_takeLine_0 rfl rfl rfl ?_
  refine gf_2_0 (pc' := 4) (w := 6) hE fl_X2_15 dX2_takeLine_1 is_10 rfl rfl ?_
  refine gf_9_3 (pc' := 7) hE fl_X2_43 dX2_takeLine_4 is_6 rfl (fun v1 hv1 htv1 hbv1 => ?_)
  refine dk_cS (pc' := 10) (as := [(0, v1)]) hE lk_X2_50 (ct_X2_lineOf l G hGd v1) dX2_takeLine_7 rfl rfl (by decide) (Nat.le_of_ble_eq_true rfl) rfl rfl (fun r3 σ2 hr3 _ => ?_)
  obtain ⟨v4, rfl, hfσ2, hpr3⟩ := hr3
  have hsσ2 : σ = σ2 := (funext (fun k => funext (fun j => hfσ2 k j not_false))).symm
  subst hsσ2
  refine dk_istore_n (pc' := 11) (ls' := [(4, 10), (0, v4)]) hE dX2_takeLine_10 rfl rfl (by decide) rfl ?_
  refine dk_iload_n (pc' := 12) hE dX2_takeLine_11 rfl rfl rfl ?_
  refine dk_iconst (pc' := 13) hE dX2_takeLine_12 (by decide) rfl ?_
  refine dk_icmp_eq (tgt := 27) (pc' := 16) hE dX2_takeLine_13 (by decide) rfl (fun hc5 => ?_) (fun hc5 => ?_)
  · skip
    refine dk_aload_n (pc' := 28) hE dX2_takeLine_27 rfl rfl rfl ?_
    refine dk_cV (pc' := 31) (as := []) hE lk_X2_58 (ct_X2_refuse l G hGd) dX2_takeLine_28 rfl is_10 rfl (by decide) (Nat.le_of_ble_eq_true rfl) rfl rfl (fun r7 σ6 hr7 _ => ?_)
    obtain ⟨v8, rfl, hfσ6, hpr7⟩ := hr7
    exact dk_zret (st := []) hE hR dX2_takeLine_31 (by omega) ⟨_, rfl, (fun k_ j_ h_ => by rw [hfσ6 k_ j_ (fun w_ => h_ (w_.elim (fun x0_ => Or.inl (x0_)) (fun y0_ => y0_.elim (fun x1_ => Or.inr (Or.inl (x1_))) (fun y1_ => y1_.elim (fun x2_ => Or.inr (Or.inr (Or.inl (x2_)))) (fun y2_ => y2_.elim (fun x3_ => Or.inr (Or.inr (Or.inr (Or.inl (x3_))))) (fun y3_ => y3_.elim (fun x4_ => Or.inr (Or.inr (Or.inr (Or.inr (Or.inl (x4_)))))) (fun y4_ => y4_.elim (fun x5_ => Or.inr (Or.inr (Or.inr (Or.inr (Or.inr (Or.inl (x5_))))))) (fun y5_ => y5_.elim (fun x6_ => Or.inr (Or.inr (Or.inr (Or.inr (Or.inr (Or.inr (Or.inl (x6_)))))))) (fun y6_ => Or.inr (Or.inr (Or.inr (Or.inr (Or.inr (Or.inr (Or.inr (y6_))))))))))))))))]), by omega⟩
  · skip
    refine dk_aload_n (pc' := 17) hE dX2_takeLine_16 rfl rfl rfl ?_
    refine gf_2_5 (pc' := 20) hE fl_X2_19 dX2_takeLine_17 is_10 rfl (fun v9 hv9 htv9 hbv9 => ?_)
    refine dk_iload_n (pc' := 21) hE dX2_takeLine_20 rfl rfl rfl ?_
    refine dk_cV (pc' := 24) (as := [(0, v4)]) hE lk_X2_54 (ct_X3_tells l G hGd v9 v4) dX2_takeLine_21 rfl (ru_is (by omega)) rfl (by decide) (Nat.le_of_ble_eq_true rfl) ⟨rfl, (by omega), (by omega)⟩ rfl (fun r11 σ10 hr11 _ => ?_)
    obtain ⟨v12, rfl, hfσ10, hpr11⟩ := hr11
    have hsσ10 : σ = σ10 := (funext (fun k => funext (fun j => hfσ10 k j not_false))).symm
    subst hsσ10
    refine dk_if_eq (tgt := 32) (pc' := 27) hE dX2_takeLine_24 (by decide) rfl (fun hc13 => ?_) (fun hc13 => ?_)
    · skip
      refine dk_aload_n (pc' := 33) hE dX2_takeLine_32 rfl rfl rfl ?_
      refine gf_2_0 (pc' := 36) (w := 6) hE fl_X2_15 dX2_takeLine_33 is_10 rfl rfl ?_
      refine dk_cV (pc' := 39) (as := []) hE lk_X2_61 (ct_X9_advance l G hGd) dX2_takeLine_36 rfl is_6 rfl (by decide) (Nat.le_of_ble_eq_true rfl) rfl rfl (fun r15 σ14 hr15 _ => ?_)
      obtain ⟨rfl, hfσ14, hpr15⟩ := hr15
      refine dk_iload_n (pc' := 40) hE dX2_takeLine_39 rfl rfl rfl ?_
      refine dk_iconst (pc' := 41) hE dX2_takeLine_40 (by decide) rfl ?_
      refine dk_icmp_eq (tgt := 68) (pc' := 44) hE dX2_takeLine_41 (by decide) rfl (fun hc16 => ?_) (fun hc16 => ?_)
      · skip
        refine dk_aload_n (pc' := 69) hE dX2_takeLine_68 rfl rfl rfl ?_
        refine gf_2_5 (pc' := 72) hE fl_X2_19 dX2_takeLine_69 is_10 rfl (fun v17 hv17 htv17 hbv17 => ?_)
        have hq17 : v9 = v17 := (show v17 = v9 by rw [hv17, hfσ14 10 5 (by omega), hv9]).symm
        subst hq17
        clear htv17 hbv17
        refine dk_iload_n (pc' := 73) hE dX2_takeLine_72 rfl rfl rfl ?_
        refine dk_cV (pc' := 76) (as := [(0, v4)]) hE lk_X2_64 (ct_X3_open l G hGd v9 v4) dX2_takeLine_73 rfl (ru_is (by omega)) rfl (by decide) (Nat.le_of_ble_eq_true rfl) ⟨rfl, (by omega), (by omega)⟩ rfl (fun r19 σ18 hr19 _ => ?_)
        obtain ⟨rfl, hfσ18, hpr19⟩ := hr19
        refine dk_aload_n (pc' := 77) hE dX2_takeLine_76 rfl rfl rfl ?_
        have hz20 : σ18 10 5 = σ 10 5 := by rw [hfσ18 10 5 (by omega), hfσ14 10 5 (by omega)]
        have hz21 : σ18 10 5 = σ 10 5 := by rw [hfσ18 10 5 (by omega), hfσ14 10 5 (by omega)]
        have hz22 : σ18 10 5 = σ 10 5 := by rw [hfσ18 10 5 (by omega), hfσ14 10 5 (by omega)]
        refine dk_cV (pc' := 80) (as := []) hE lk_X2_68 (ct_X2_takeExpression l G hGd) dX2_takeLine_77 rfl is_10 rfl (by decide) (Nat.le_of_ble_eq_true rfl) ⟨rfl, (by omega)⟩ rfl (fun r24 σ23 hr24 _ => ?_)
        obtain ⟨v25, rfl, hfσ23, hpr24⟩ := hr24
        refine dk_if_ne (tgt := 88) (pc' := 83) hE dX2_takeLine_80 (by decide) rfl (fun hc26 => ?_) (fun hc26 => ?_)
        · skip
          refine dk_aload_n (pc' := 89) hE dX2_takeLine_88 rfl rfl rfl ?_
          refine gf_2_5 (pc' := 92) hE fl_X2_19 dX2_takeLine_89 is_10 rfl (fun v27 hv27 htv27 hbv27 => ?_)
          have hq27 : v9 = v27 := (show v27 = v9 by rw [hv27, hfσ23 10 5 (by omega), hfσ18 10 5 (by omega), hv17]).symm
          subst hq27
          clear htv27 hbv27
          refine dk_iload_n (pc' := 93) hE dX2_takeLine_92 rfl rfl rfl ?_
          refine dk_cV (pc' := 96) (as := [(0, v4)]) hE lk_X2_71 (ct_X3_close l G hGd v9 v4) dX2_takeLine_93 rfl (ru_is (by omega)) rfl (by decide) (Nat.le_of_ble_eq_true rfl) ⟨rfl, (by omega), (by omega)⟩ rfl (fun r29 σ28 hr29 _ => ?_)
          obtain ⟨rfl, hfσ28, hpr29⟩ := hr29
          refine dk_aload_n (pc' := 97) hE dX2_takeLine_96 rfl rfl rfl ?_
          refine gf_2_0 (pc' := 100) (w := 6) hE fl_X2_15 dX2_takeLine_97 is_10 rfl rfl ?_
          refine dk_cV (pc' := 103) (as := []) hE lk_X2_61 (ct_X9_advance l G hGd) dX2_takeLine_100 rfl is_6 rfl (by decide) (Nat.le_of_ble_eq_true rfl) rfl rfl (fun r31 σ30 hr31 _ => ?_)
          obtain ⟨rfl, hfσ30, hpr31⟩ := hr31
          refine dk_iconst (pc' := 104) hE dX2_takeLine_103 (by decide) rfl ?_
          have hw32 : 13 ≤ v9 + 3 ∧ v9 + 3 ≤ 36 := by omega
          have hw33 : 13 ≤ v9 + 2 ∧ v9 + 2 ≤ 36 := by omega
          exact dk_zret (st := []) hE hR dX2_takeLine_104 (by omega) ⟨_, rfl, (fun k_ j_ h_ => by rw [hfσ30 k_ j_ (fun w_ => h_ (Or.inl (w_))), hfσ28 k_ j_ (fun w_ => h_ (Or.inr (Or.inr (Or.inr (Or.inr (Or.inr (Or.inr (Or.inr (dk_wr w_ hw32))))))))), hfσ23 k_ j_ (fun w_ => h_ (w_.elim (fun x0_ => Or.inl (x0_)) (fun y0_ => y0_.elim (fun x1_ => Or.inr (Or.inl (x1_))) (fun y1_ => y1_.elim (fun x2_ => Or.inr (Or.inr (Or.inl (x2_)))) (fun y2_ => y2_.elim (fun x3_ => Or.inr (Or.inr (Or.inr (Or.inl (x3_))))) (fun y3_ => y3_.elim (fun x4_ => Or.inr (Or.inr (Or.inr (Or.inr (Or.inl (x4_)))))) (fun y4_ => y4_.elim (fun x5_ => Or.inr (Or.inr (Or.inr (Or.inr (Or.inr (Or.inl (x5_))))))) (fun y5_ => y5_.elim (fun x6_ => Or.inr (Or.inr (Or.inr (Or.inr (Or.inr (Or.inr (Or.inl (x6_)))))))) (fun y6_ => Or.inr (Or.inr (Or.inr (Or.inr (Or.inr (Or.inr (Or.inr (y6_)))))))))))))))), hfσ18 k_ j_ (fun w_ => h_ (Or.inr (Or.inr (Or.inr (Or.inr (Or.inr (Or.inr (Or.inr (dk_wr w_ hw33))))))))), hfσ14 k_ j_ (fun w_ => h_ (Or.inl (w_)))]), by omega⟩
        · skip
          refine dk_aload_n (pc' := 84) hE dX2_takeLine_83 rfl rfl rfl ?_
          refine dk_cV (pc' := 87) (as := []) hE lk_X2_58 (ct_X2_refuse l G hGd) dX2_takeLine_84 rfl is_10 rfl (by decide) (Nat.le_of_ble_eq_true rfl) rfl rfl (fun r35 σ34 hr35 _ => ?_)
          obtain ⟨v36, rfl, hfσ34, hpr35⟩ := hr35
          have hw37 : 13 ≤ v9 + 2 ∧ v9 + 2 ≤ 36 := by omega
          exact dk_zret (st := []) hE hR dX2_takeLine_87 (by omega) ⟨_, rfl, (fun k_ j_ h_ => by rw [hfσ34 k_ j_ (fun w_ => h_ (w_.elim (fun x0_ => Or.inl (x0_)) (fun y0_ => y0_.elim (fun x1_ => Or.inr (Or.inl (x1_))) (fun y1_ => y1_.elim (fun x2_ => Or.inr (Or.inr (Or.inl (x2_)))) (fun y2_ => y2_.elim (fun x3_ => Or.inr (Or.inr (Or.inr (Or.inl (x3_))))) (fun y3_ => y3_.elim (fun x4_ => Or.inr (Or.inr (Or.inr (Or.inr (Or.inl (x4_)))))) (fun y4_ => y4_.elim (fun x5_ => Or.inr (Or.inr (Or.inr (Or.inr (Or.inr (Or.inl (x5_))))))) (fun y5_ => y5_.elim (fun x6_ => Or.inr (Or.inr (Or.inr (Or.inr (Or.inr (Or.inr (Or.inl (x6_)))))))) (fun y6_ => Or.inr (Or.inr (Or.inr (Or.inr (Or.inr (Or.inr (Or.inr (y6_)))))))))))))))), hfσ23 k_ j_ (fun w_ => h_ (w_.elim (fun x0_ => Or.inl (x0_)) (fun y0_ => y0_.elim (fun x1_ => Or.inr (Or.inl (x1_))) (fun y1_ => y1_.elim (fun x2_ => Or.inr (Or.inr (Or.inl (x2_)))) (fun y2_ => y2_.elim (fun x3_ => Or.inr (Or.inr (Or.inr (Or.inl (x3_))))) (fun y3_ => y3_.elim (fun x4_ => Or.inr (Or.inr (Or.inr (Or.inr (Or.inl (x4_)))))) (fun y4_ => y4_.elim (fun x5_ => Or.inr (Or.inr (Or.inr (Or.inr (Or.inr (Or.inl (x5_))))))) (fun y5_ => y5_.elim (fun x6_ => Or.inr (Or.inr (Or.inr (Or.inr (Or.inr (Or.inr (Or.inl (x6_)))))))) (fun y6_ => Or.inr (Or.inr (Or.inr (Or.inr (Or.inr (Or.inr (Or.inr (y6_)))))))))))))))), hfσ18 k_ j_ (fun w_ => h_ (Or.inr (Or.inr (Or.inr (Or.inr (Or.inr (Or.inr (Or.inr (dk_wr w_ hw37))))))))), hfσ14 k_ j_ (fun w_ => h_ (Or.inl (w_)))]), by omega⟩
      · skip
        refine dk_aload_n (pc' := 45) hE dX2_takeLine_44 rfl rfl rfl ?_
        refine gf_2_0 (pc' := 48) (w := 6) hE fl_X2_15 dX2_takeLine_45 is_10 rfl rfl ?_
        refine gf_9_3 (pc' := 51) hE fl_X2_43 dX2_takeLine_48 is_6 rfl (fun v38 hv38 htv38 hbv38 => ?_)
        refine dk_bipush (pc' := 53) hE dX2_takeLine_51 (by decide) rfl ?_
        refine dk_icmp_eq (tgt := 61) (pc' := 56) hE dX2_takeLine_53 (by decide) rfl (fun hc39 => ?_) (fun hc39 => ?_)
        · skip
          refine dk_aload_n (pc' := 62) hE dX2_takeLine_61 rfl rfl rfl ?_
          refine gf_2_0 (pc' := 65) (w := 6) hE fl_X2_15 dX2_takeLine_62 is_10 rfl rfl ?_
          refine dk_cV (pc' := 68) (as := []) hE lk_X2_61 (ct_X9_advance l G hGd) dX2_takeLine_65 rfl is_6 rfl (by decide) (Nat.le_of_ble_eq_true rfl) rfl rfl (fun r41 σ40 hr41 _ => ?_)
          obtain ⟨rfl, hfσ40, hpr41⟩ := hr41
          refine dk_aload_n (pc' := 69) hE dX2_takeLine_68 rfl rfl rfl ?_
          refine gf_2_5 (pc' := 72) hE fl_X2_19 dX2_takeLine_69 is_10 rfl (fun v42 hv42 htv42 hbv42 => ?_)
          have hq42 : v9 = v42 := (show v42 = v9 by rw [hv42, hfσ40 10 5 (by omega), hfσ14 10 5 (by omega), hv9]).symm
          subst hq42
          clear htv42 hbv42
          refine dk_iload_n (pc' := 73) hE dX2_takeLine_72 rfl rfl rfl ?_
          refine dk_cV (pc' := 76) (as := [(0, v4)]) hE lk_X2_64 (ct_X3_open l G hGd v9 v4) dX2_takeLine_73 rfl (ru_is (by omega)) rfl (by decide) (Nat.le_of_ble_eq_true rfl) ⟨rfl, (by omega), (by omega)⟩ rfl (fun r44 σ43 hr44 _ => ?_)
          obtain ⟨rfl, hfσ43, hpr44⟩ := hr44
          refine dk_aload_n (pc' := 77) hE dX2_takeLine_76 rfl rfl rfl ?_
          have hz45 : σ43 10 5 = σ 10 5 := by rw [hfσ43 10 5 (by omega), hfσ40 10 5 (by omega), hfσ14 10 5 (by omega)]
          have hz46 : σ43 10 5 = σ 10 5 := by rw [hfσ43 10 5 (by omega), hfσ40 10 5 (by omega), hfσ14 10 5 (by omega)]
          have hz47 : σ43 10 5 = σ 10 5 := by rw [hfσ43 10 5 (by omega), hfσ40 10 5 (by omega), hfσ14 10 5 (by omega)]
          refine dk_cV (pc' := 80) (as := []) hE lk_X2_68 (ct_X2_takeExpression l G hGd) dX2_takeLine_77 rfl is_10 rfl (by decide) (Nat.le_of_ble_eq_true rfl) ⟨rfl, (by omega)⟩ rfl (fun r49 σ48 hr49 _ => ?_)
          obtain ⟨v50, rfl, hfσ48, hpr49⟩ := hr49
          refine dk_if_ne (tgt := 88) (pc' := 83) hE dX2_takeLine_80 (by decide) rfl (fun hc51 => ?_) (fun hc51 => ?_)
          · skip
            refine dk_aload_n (pc' := 89) hE dX2_takeLine_88 rfl rfl rfl ?_
            refine gf_2_5 (pc' := 92) hE fl_X2_19 dX2_takeLine_89 is_10 rfl (fun v52 hv52 htv52 hbv52 => ?_)
            have hq52 : v9 = v52 := (show v52 = v9 by rw [hv52, hfσ48 10 5 (by omega), hfσ43 10 5 (by omega), hv42]).symm
            subst hq52
            clear htv52 hbv52
            refine dk_iload_n (pc' := 93) hE dX2_takeLine_92 rfl rfl rfl ?_
            refine dk_cV (pc' := 96) (as := [(0, v4)]) hE lk_X2_71 (ct_X3_close l G hGd v9 v4) dX2_takeLine_93 rfl (ru_is (by omega)) rfl (by decide) (Nat.le_of_ble_eq_true rfl) ⟨rfl, (by omega), (by omega)⟩ rfl (fun r54 σ53 hr54 _ => ?_)
            obtain ⟨rfl, hfσ53, hpr54⟩ := hr54
            refine dk_aload_n (pc' := 97) hE dX2_takeLine_96 rfl rfl rfl ?_
            refine gf_2_0 (pc' := 100) (w := 6) hE fl_X2_15 dX2_takeLine_97 is_10 rfl rfl ?_
            refine dk_cV (pc' := 103) (as := []) hE lk_X2_61 (ct_X9_advance l G hGd) dX2_takeLine_100 rfl is_6 rfl (by decide) (Nat.le_of_ble_eq_true rfl) rfl rfl (fun r56 σ55 hr56 _ => ?_)
            obtain ⟨rfl, hfσ55, hpr56⟩ := hr56
            refine dk_iconst (pc' := 104) hE dX2_takeLine_103 (by decide) rfl ?_
            have hw57 : 13 ≤ v9 + 3 ∧ v9 + 3 ≤ 36 := by omega
            have hw58 : 13 ≤ v9 + 2 ∧ v9 + 2 ≤ 36 := by omega
            exact dk_zret (st := []) hE hR dX2_takeLine_104 (by omega) ⟨_, rfl, (fun k_ j_ h_ => by rw [hfσ55 k_ j_ (fun w_ => h_ (Or.inl (w_))), hfσ53 k_ j_ (fun w_ => h_ (Or.inr (Or.inr (Or.inr (Or.inr (Or.inr (Or.inr (Or.inr (dk_wr w_ hw57))))))))), hfσ48 k_ j_ (fun w_ => h_ (w_.elim (fun x0_ => Or.inl (x0_)) (fun y0_ => y0_.elim (fun x1_ => Or.inr (Or.inl (x1_))) (fun y1_ => y1_.elim (fun x2_ => Or.inr (Or.inr (Or.inl (x2_)))) (fun y2_ => y2_.elim (fun x3_ => Or.inr (Or.inr (Or.inr (Or.inl (x3_))))) (fun y3_ => y3_.elim (fun x4_ => Or.inr (Or.inr (Or.inr (Or.inr (Or.inl (x4_)))))) (fun y4_ => y4_.elim (fun x5_ => Or.inr (Or.inr (Or.inr (Or.inr (Or.inr (Or.inl (x5_))))))) (fun y5_ => y5_.elim (fun x6_ => Or.inr (Or.inr (Or.inr (Or.inr (Or.inr (Or.inr (Or.inl (x6_)))))))) (fun y6_ => Or.inr (Or.inr (Or.inr (Or.inr (Or.inr (Or.inr (Or.inr (y6_)))))))))))))))), hfσ43 k_ j_ (fun w_ => h_ (Or.inr (Or.inr (Or.inr (Or.inr (Or.inr (Or.inr (Or.inr (dk_wr w_ hw58))))))))), hfσ40 k_ j_ (fun w_ => h_ (Or.inl (w_))), hfσ14 k_ j_ (fun w_ => h_ (Or.inl (w_)))]), by omega⟩
          · skip
            refine dk_aload_n (pc' := 84) hE dX2_takeLine_83 rfl rfl rfl ?_
            refine dk_cV (pc' := 87) (as := []) hE lk_X2_58 (ct_X2_refuse l G hGd) dX2_takeLine_84 rfl is_10 rfl (by decide) (Nat.le_of_ble_eq_true rfl) rfl rfl (fun r60 σ59 hr60 _ => ?_)
            obtain ⟨v61, rfl, hfσ59, hpr60⟩ := hr60
            have hw62 : 13 ≤ v9 + 2 ∧ v9 + 2 ≤ 36 := by omega
            exact dk_zret (st := []) hE hR dX2_takeLine_87 (by omega) ⟨_, rfl, (fun k_ j_ h_ => by rw [hfσ59 k_ j_ (fun w_ => h_ (w_.elim (fun x0_ => Or.inl (x0_)) (fun y0_ => y0_.elim (fun x1_ => Or.inr (Or.inl (x1_))) (fun y1_ => y1_.elim (fun x2_ => Or.inr (Or.inr (Or.inl (x2_)))) (fun y2_ => y2_.elim (fun x3_ => Or.inr (Or.inr (Or.inr (Or.inl (x3_))))) (fun y3_ => y3_.elim (fun x4_ => Or.inr (Or.inr (Or.inr (Or.inr (Or.inl (x4_)))))) (fun y4_ => y4_.elim (fun x5_ => Or.inr (Or.inr (Or.inr (Or.inr (Or.inr (Or.inl (x5_))))))) (fun y5_ => y5_.elim (fun x6_ => Or.inr (Or.inr (Or.inr (Or.inr (Or.inr (Or.inr (Or.inl (x6_)))))))) (fun y6_ => Or.inr (Or.inr (Or.inr (Or.inr (Or.inr (Or.inr (Or.inr (y6_)))))))))))))))), hfσ48 k_ j_ (fun w_ => h_ (w_.elim (fun x0_ => Or.inl (x0_)) (fun y0_ => y0_.elim (fun x1_ => Or.inr (Or.inl (x1_))) (fun y1_ => y1_.elim (fun x2_ => Or.inr (Or.inr (Or.inl (x2_)))) (fun y2_ => y2_.elim (fun x3_ => Or.inr (Or.inr (Or.inr (Or.inl (x3_))))) (fun y3_ => y3_.elim (fun x4_ => Or.inr (Or.inr (Or.inr (Or.inr (Or.inl (x4_)))))) (fun y4_ => y4_.elim (fun x5_ => Or.inr (Or.inr (Or.inr (Or.inr (Or.inr (Or.inl (x5_))))))) (fun y5_ => y5_.elim (fun x6_ => Or.inr (Or.inr (Or.inr (Or.inr (Or.inr (Or.inr (Or.inl (x6_)))))))) (fun y6_ => Or.inr (Or.inr (Or.inr (Or.inr (Or.inr (Or.inr (Or.inr (y6_)))))))))))))))), hfσ43 k_ j_ (fun w_ => h_ (Or.inr (Or.inr (Or.inr (Or.inr (Or.inr (Or.inr (Or.inr (dk_wr w_ hw62))))))))), hfσ40 k_ j_ (fun w_ => h_ (Or.inl (w_))), hfσ14 k_ j_ (fun w_ => h_ (Or.inl (w_)))]), by omega⟩
        · skip
          refine dk_aload_n (pc' := 57) hE dX2_takeLine_56 rfl rfl rfl ?_
          refine dk_cV (pc' := 60) (as := []) hE lk_X2_58 (ct_X2_refuse l G hGd) dX2_takeLine_57 rfl is_10 rfl (by decide) (Nat.le_of_ble_eq_true rfl) rfl rfl (fun r64 σ63 hr64 _ => ?_)
          obtain ⟨v65, rfl, hfσ63, hpr64⟩ := hr64
          exact dk_zret (st := []) hE hR dX2_takeLine_60 (by omega) ⟨_, rfl, (fun k_ j_ h_ => by rw [hfσ63 k_ j_ (fun w_ => h_ (w_.elim (fun x0_ => Or.inl (x0_)) (fun y0_ => y0_.elim (fun x1_ => Or.inr (Or.inl (x1_))) (fun y1_ => y1_.elim (fun x2_ => Or.inr (Or.inr (Or.inl (x2_)))) (fun y2_ => y2_.elim (fun x3_ => Or.inr (Or.inr (Or.inr (Or.inl (x3_))))) (fun y3_ => y3_.elim (fun x4_ => Or.inr (Or.inr (Or.inr (Or.inr (Or.inl (x4_)))))) (fun y4_ => y4_.elim (fun x5_ => Or.inr (Or.inr (Or.inr (Or.inr (Or.inr (Or.inl (x5_))))))) (fun y5_ => y5_.elim (fun x6_ => Or.inr (Or.inr (Or.inr (Or.inr (Or.inr (Or.inr (Or.inl (x6_)))))))) (fun y6_ => Or.inr (Or.inr (Or.inr (Or.inr (Or.inr (Or.inr (Or.inr (y6_)))))))))))))))), hfσ14 k_ j_ (fun w_ => h_ (Or.inl (w_)))]), by omega⟩
    · skip
      refine dk_aload_n (pc' := 28) hE dX2_takeLine_27 rfl rfl rfl ?_
      refine dk_cV (pc' := 31) (as := []) hE lk_X2_58 (ct_X2_refuse l G hGd) dX2_takeLine_28 rfl is_10 rfl (by decide) (Nat.le_of_ble_eq_true rfl) rfl rfl (fun r67 σ66 hr67 _ => ?_)
      obtain ⟨v68, rfl, hfσ66, hpr67⟩ := hr67
      exact dk_zret (st := []) hE hR dX2_takeLine_31 (by omega) ⟨_, rfl, (fun k_ j_ h_ => by rw [hfσ66 k_ j_ (fun w_ => h_ (w_.elim (fun x0_ => Or.inl (x0_)) (fun y0_ => y0_.elim (fun x1_ => Or.inr (Or.inl (x1_))) (fun y1_ => y1_.elim (fun x2_ => Or.inr (Or.inr (Or.inl (x2_)))) (fun y2_ => y2_.elim (fun x3_ => Or.inr (Or.inr (Or.inr (Or.inl (x3_))))) (fun y3_ => y3_.elim (fun x4_ => Or.inr (Or.inr (Or.inr (Or.inr (Or.inl (x4_)))))) (fun y4_ => y4_.elim (fun x5_ => Or.inr (Or.inr (Or.inr (Or.inr (Or.inr (Or.inl (x5_))))))) (fun y5_ => y5_.elim (fun x6_ => Or.inr (Or.inr (Or.inr (Or.inr (Or.inr (Or.inr (Or.inl (x6_)))))))) (fun y6_ => Or.inr (Or.inr (Or.inr (Or.inr (Or.inr (Or.inr (Or.inr (y6_))))))))))))))))]), by omega⟩
set_option maxHeartbeats 4000000 in
set_option maxRecDepth 20000 in
theorem ct_X2_readInto (l : Launch) (G : dkG) (hGd : dk_Gd G) (r : Int) : dk_Ct l G dk_Ty yX2_readInto cX2_readInto 3 (some .boolean) 8 190 190 (fun av σ => av = [(4, 10), (4, r)] ∧ (dk_ru r)) (fun _ σ r_ σ' => ∃ z : Int, r_ = some (0, z) ∧ (∀ k_ j_ : Int, ¬ (k_ = 6 ∨ (k_ = 10 ∧ j_ = 2) ∨ (k_ = 10 ∧ j_ = 3) ∨ (k_ = 10 ∧ j_ = 4) ∨ (k_ = 10 ∧ j_ = 6) ∨ (k_ = 10 ∧ j_ = 7) ∨ k_ = 11 ∨ (13 ≤ k_ ∧ k_ ≤ 36) ∨ (k_ = 10 ∧ j_ = 5)) → σ' k_ j_ = σ k_ j_) ∧ (0 ≤ z ∧ z ≤ 1)) := by
  refine dk_enter hGd (by decide) (fun av σ hpre hok => ?_)
  obtain ⟨rfl, hr⟩ := hpre
  refine ⟨Nat.le_of_ble_eq_true rfl, fun E hE hR _ => ?_⟩
  show dk_PJ E 0 [(4, 10), (4, r), (9, 0)] [] 190 σ
  refine dk_aload_n (pc' := 1) hE dX2_readInto_0 rfl rfl rfl ?_
  refine dk_aload_n (pc' := 2) hE dX2_readInto_1 rfl rfl rfl ?_
  refine pf_2_5 (pc' := 5) hE fl_X2_19 dX2_readInto_2 is_10 (by omega) rfl (fun σ1 eσ1 => ?_)
  refine dk_aload_n (pc' := 6) hE dX2_readInto_5 rfl rfl rfl ?_
  refine gf_2_5 (pc' := 9) hE fl_X2_19 dX2_readInto_6 is_10 rfl (fun v2 hv2 htv2 hbv2 => ?_)
  have hq2 : r = v2 := (show v2 = r by rw [hv2, eσ1, dk_up_s]).symm
  subst hq2
  clear htv2 hbv2
  refine dk_cV (pc' := 12) (as := []) hE lk_X2_23 (ct_X3_clear l G hGd r) dX2_readInto_9 rfl (ru_is (by omega)) rfl (by decide) (Nat.le_of_ble_eq_true rfl) ⟨rfl, (by omega)⟩ rfl (fun r4 σ3 hr4 _ => ?_)
  obtain ⟨rfl, hfσ3, hpr4⟩ := hr4
  refine dk_aload_n (pc' := 13) hE dX2_readInto_12 rfl rfl rfl ?_
  refine dk_iconst (pc' := 14) hE dX2_readInto_13 (by decide) rfl ?_
  refine pf_2_4 (pc' := 17) hE fl_X2_28 dX2_readInto_14 is_10 (by omega) rfl (fun σ5 eσ5 => ?_)
  refine dk_aload_n (pc' := 18) hE dX2_readInto_17 rfl rfl rfl ?_
  refine dk_iconst (pc' := 19) hE dX2_readInto_18 (by decide) rfl ?_
  refine pf_2_6 (pc' := 22) hE fl_X2_32 dX2_readInto_19 is_10 trivial rfl (fun σ6 eσ6 => ?_)
  refine dk_aload_n (pc' := 23) hE dX2_readInto_22 rfl rfl rfl ?_
  refine dk_iconst (pc' := 24) hE dX2_readInto_23 (by decide) rfl ?_
  refine pf_2_7 (pc' := 27) hE fl_X2_35 dX2_readInto_24 is_10 trivial rfl (fun σ7 eσ7 => ?_)
  refine dk_aload_n (pc' := 28) hE dX2_readInto_27 rfl rfl rfl ?_
  refine gf_2_0 (pc' := 31) (w := 6) hE fl_X2_15 dX2_readInto_28 is_10 rfl rfl ?_
  refine dk_cV (pc' := 34) (as := []) hE lk_X2_38 (ct_X9_start l G hGd) dX2_readInto_31 rfl is_6 rfl (by decide) (Nat.le_of_ble_eq_true rfl) rfl rfl (fun r9 σ8 hr9 _ => ?_)
  obtain ⟨rfl, hfσ8, hpr9⟩ := hr9
  refine dk_iconst (pc' := 35) hE dX2_readInto_34 (by decide) rfl ?_
  refine dk_istore_n (pc' := 36) (ls' := [(4, 10), (4, r), (0, 0)]) hE dX2_readInto_35 rfl rfl (by decide) rfl ?_
  have lp36 : ∀ (N_ : Nat) (i : Int) (σ36c : dkS), (2147483648 - i).toNat < N_ → ((∀ k_ j_ : Int, ¬ (k_ = 6 ∨ (k_ = 10 ∧ j_ = 2) ∨ (k_ = 10 ∧ j_ = 3) ∨ (k_ = 10 ∧ j_ = 4) ∨ (k_ = 10 ∧ j_ = 6) ∨ (k_ = 10 ∧ j_ = 7) ∨ k_ = 11 ∨ (13 ≤ k_ ∧ k_ ≤ 36)) → σ36c k_ j_ = σ8 k_ j_)) → (0 ≤ i) → dk_PJ E 36 [(4, 10), (4, r), (0, i)] [] 190 σ36c := by
    intro N36
    induction N36 with
    | zero => intro i σ36c hm; exact absurd hm (Nat.not_lt_zero _)
    | succ N36 ih36 =>
      intro i σ36c hm36 hF36 hi
      refine dk_iload_n (pc' := 37) hE dX2_readInto_36 rfl rfl rfl ?_
      refine dk_iconst (pc' := 38) hE dX2_readInto_37 (by decide) rfl ?_
      refine dk_icmp_gt (tgt := 66) (pc' := 41) hE dX2_readInto_38 (by decide) rfl (fun hc10 => ?_) (fun hc10 => ?_)
      · skip
        refine dk_iconst (pc' := 67) hE dX2_readInto_66 (by decide) rfl ?_
        have hw11 : 13 ≤ r ∧ r ≤ 36 := by omega
        have hw12 : 13 ≤ r + 2 ∧ r + 2 ≤ 36 := by omega
        have hw13 : 13 ≤ r + 3 ∧ r + 3 ≤ 36 := by omega
        exact dk_zret (st := []) hE hR dX2_readInto_67 (by omega) ⟨_, rfl, (fun k_ j_ h_ => by rw [hF36 k_ j_ (fun w_ => h_ (w_.elim (fun x0_ => Or.inl (x0_)) (fun y0_ => y0_.elim (fun x1_ => Or.inr (Or.inl (x1_))) (fun y1_ => y1_.elim (fun x2_ => Or.inr (Or.inr (Or.inl (x2_)))) (fun y2_ => y2_.elim (fun x3_ => Or.inr (Or.inr (Or.inr (Or.inl (x3_))))) (fun y3_ => y3_.elim (fun x4_ => Or.inr (Or.inr (Or.inr (Or.inr (Or.inl (x4_)))))) (fun y4_ => y4_.elim (fun x5_ => Or.inr (Or.inr (Or.inr (Or.inr (Or.inr (Or.inl (x5_))))))) (fun y5_ => y5_.elim (fun x6_ => Or.inr (Or.inr (Or.inr (Or.inr (Or.inr (Or.inr (Or.inl (x6_)))))))) (fun y6_ => Or.inr (Or.inr (Or.inr (Or.inr (Or.inr (Or.inr (Or.inr (Or.inl (y6_))))))))))))))))), hfσ8 k_ j_ (fun w_ => h_ (Or.inl (w_))), eσ7, dk_up_n (show ¬ (k_ = 10 ∧ j_ = 7) from fun q_ => h_ (Or.inr (Or.inr (Or.inr (Or.inr (Or.inr (Or.inl (q_)))))))), eσ6, dk_up_n (show ¬ (k_ = 10 ∧ j_ = 6) from fun q_ => h_ (Or.inr (Or.inr (Or.inr (Or.inr (Or.inl (q_))))))), eσ5, dk_up_n (show ¬ (k_ = 10 ∧ j_ = 4) from fun q_ => h_ (Or.inr (Or.inr (Or.inr (Or.inl (q_)))))), hfσ3 k_ j_ (fun w_ => h_ (w_.elim (fun x0_ => Or.inr (Or.inr (Or.inr (Or.inr (Or.inr (Or.inr (Or.inr (Or.inl (dk_wr x0_.1 hw11))))))))) (fun y0_ => y0_.elim (fun x1_ => Or.inr (Or.inr (Or.inr (Or.inr (Or.inr (Or.inr (Or.inr (Or.inl (dk_wr x1_ hw12))))))))) (fun y1_ => Or.inr (Or.inr (Or.inr (Or.inr (Or.inr (Or.inr (Or.inr (Or.inl (dk_wr y1_ hw13)))))))))))), eσ1, dk_up_n (show ¬ (k_ = 10 ∧ j_ = 5) from fun q_ => h_ (Or.inr (Or.inr (Or.inr (Or.inr (Or.inr (Or.inr (Or.inr (Or.inr (q_))))))))))]), by omega⟩
      · skip
        refine dk_aload_n (pc' := 42) hE dX2_readInto_41 rfl rfl rfl ?_
        refine gf_2_0 (pc' := 45) (w := 6) hE fl_X2_15 dX2_readInto_42 is_10 rfl rfl ?_
        refine gf_9_3 (pc' := 48) hE fl_X2_43 dX2_readInto_45 is_6 rfl (fun v14 hv14 htv14 hbv14 => ?_)
        refine dk_if_eq (tgt := 66) (pc' := 51) hE dX2_readInto_48 (by decide) rfl (fun hc15 => ?_) (fun hc15 => ?_)
        · skip
          refine dk_iconst (pc' := 67) hE dX2_readInto_66 (by decide) rfl ?_
          have hw16 : 13 ≤ r ∧ r ≤ 36 := by omega
          have hw17 : 13 ≤ r + 2 ∧ r + 2 ≤ 36 := by omega
          have hw18 : 13 ≤ r + 3 ∧ r + 3 ≤ 36 := by omega
          exact dk_zret (st := []) hE hR dX2_readInto_67 (by omega) ⟨_, rfl, (fun k_ j_ h_ => by rw [hF36 k_ j_ (fun w_ => h_ (w_.elim (fun x0_ => Or.inl (x0_)) (fun y0_ => y0_.elim (fun x1_ => Or.inr (Or.inl (x1_))) (fun y1_ => y1_.elim (fun x2_ => Or.inr (Or.inr (Or.inl (x2_)))) (fun y2_ => y2_.elim (fun x3_ => Or.inr (Or.inr (Or.inr (Or.inl (x3_))))) (fun y3_ => y3_.elim (fun x4_ => Or.inr (Or.inr (Or.inr (Or.inr (Or.inl (x4_)))))) (fun y4_ => y4_.elim (fun x5_ => Or.inr (Or.inr (Or.inr (Or.inr (Or.inr (Or.inl (x5_))))))) (fun y5_ => y5_.elim (fun x6_ => Or.inr (Or.inr (Or.inr (Or.inr (Or.inr (Or.inr (Or.inl (x6_)))))))) (fun y6_ => Or.inr (Or.inr (Or.inr (Or.inr (Or.inr (Or.inr (Or.inr (Or.inl (y6_))))))))))))))))), hfσ8 k_ j_ (fun w_ => h_ (Or.inl (w_))), eσ7, dk_up_n (show ¬ (k_ = 10 ∧ j_ = 7) from fun q_ => h_ (Or.inr (Or.inr (Or.inr (Or.inr (Or.inr (Or.inl (q_)))))))), eσ6, dk_up_n (show ¬ (k_ = 10 ∧ j_ = 6) from fun q_ => h_ (Or.inr (Or.inr (Or.inr (Or.inr (Or.inl (q_))))))), eσ5, dk_up_n (show ¬ (k_ = 10 ∧ j_ = 4) from fun q_ => h_ (Or.inr (Or.inr (Or.inr (Or.inl (q_)))))), hfσ3 k_ j_ (fun w_ => h_ (w_.elim (fun x0_ => Or.inr (Or.inr (Or.inr (Or.inr (Or.inr (Or.inr (Or.inr (Or.inl (dk_wr x0_.1 hw16))))))))) (fun y0_ => y0_.elim (fun x1_ => Or.inr (Or.inr (Or.inr (Or.inr (Or.inr (Or.inr (Or.inr (Or.inl (dk_wr x1_ hw17))))))))) (fun y1_ => Or.inr (Or.inr (Or.inr (Or.inr (Or.inr (Or.inr (Or.inr (Or.inl (dk_wr y1_ hw18)))))))))))), eσ1, dk_up_n (show ¬ (k_ = 10 ∧ j_ = 5) from fun q_ => h_ (Or.inr (Or.inr (Or.inr (Or.inr (Or.inr (Or.inr (Or.inr (Or.inr (q_))))))))))]), by omega⟩
        · skip
          refine dk_aload_n (pc' := 52) hE dX2_readInto_51 rfl rfl rfl ?_
          have hz19 : σ36c 10 5 = r := by rw [hF36 10 5 (by omega), hfσ8 10 5 (by omega), eσ7, dk_up_n (show ¬ (10 = 10 ∧ 5 = 7) by omega), eσ6, dk_up_n (show ¬ (10 = 10 ∧ 5 = 6) by omega), eσ5, dk_up_n (show ¬ (10 = 10 ∧ 5 = 4) by omega), hfσ3 10 5 (by omega), eσ1, dk_up_s]
          have hz20 : σ36c 10 5 = r := by rw [hF36 10 5 (by omega), hfσ8 10 5 (by omega), eσ7, dk_up_n (show ¬ (10 = 10 ∧ 5 = 7) by omega), eσ6, dk_up_n (show ¬ (10 = 10 ∧ 5 = 6) by omega), eσ5, dk_up_n (show ¬ (10 = 10 ∧ 5 = 4) by omega), hfσ3 10 5 (by omega), eσ1, dk_up_s]
          have hz21 : σ36c 10 5 = r := by rw [hF36 10 5 (by omega), hfσ8 10 5 (by omega), eσ7, dk_up_n (show ¬ (10 = 10 ∧ 5 = 7) by omega), eσ6, dk_up_n (show ¬ (10 = 10 ∧ 5 = 6) by omega), eσ5, dk_up_n (show ¬ (10 = 10 ∧ 5 = 4) by omega), hfσ3 10 5 (by omega), eσ1, dk_up_s]
          refine dk_cV (pc' := 55) (as := []) hE lk_X2_46 (ct_X2_takeLine l G hGd) dX2_readInto_52 rfl is_10 rfl (by decide) (Nat.le_of_ble_eq_true rfl) ⟨rfl, (by omega)⟩ rfl (fun r23 σ22 hr23 _ => ?_)
          obtain ⟨v24, rfl, hfσ22, hpr23⟩ := hr23
          refine dk_if_ne (tgt := 60) (pc' := 58) hE dX2_readInto_55 (by decide) rfl (fun hc25 => ?_) (fun hc25 => ?_)
          · skip
            obtain ⟨v26, hv26⟩ : ∃ z : Int, z = i + 1 := ⟨_, rfl⟩
            refine dk_iinc (pc' := 63) (ls' := [(4, 10), (4, r), (0, v26)]) hE dX2_readInto_60 rfl hv26.symm (by omega) rfl (by decide) rfl ?_
            refine dk_goto (tgt := 36) hE dX2_readInto_63 (by decide) ?_
            exact ih36 v26 σ22 (by omega) (fun k_ j_ h_ => by rw [hfσ22 k_ j_ (fun w_ => h_ (w_.elim (fun x0_ => Or.inl (x0_)) (fun y0_ => y0_.elim (fun x1_ => Or.inr (Or.inl (x1_))) (fun y1_ => y1_.elim (fun x2_ => Or.inr (Or.inr (Or.inl (x2_)))) (fun y2_ => y2_.elim (fun x3_ => Or.inr (Or.inr (Or.inr (Or.inl (x3_))))) (fun y3_ => y3_.elim (fun x4_ => Or.inr (Or.inr (Or.inr (Or.inr (Or.inl (x4_)))))) (fun y4_ => y4_.elim (fun x5_ => Or.inr (Or.inr (Or.inr (Or.inr (Or.inr (Or.inl (x5_))))))) (fun y5_ => y5_.elim (fun x6_ => Or.inr (Or.inr (Or.inr (Or.inr (Or.inr (Or.inr (Or.inl (x6_)))))))) (fun y6_ => Or.inr (Or.inr (Or.inr (Or.inr (Or.inr (Or.inr (Or.inr (y6_)))))))))))))))), hF36 k_ j_ (fun w_ => h_ (w_.elim (fun x0_ => Or.inl (x0_)) (fun y0_ => y0_.elim (fun x1_ => Or.inr (Or.inl (x1_))) (fun y1_ => y1_.elim (fun x2_ => Or.inr (Or.inr (Or.inl (x2_)))) (fun y2_ => y2_.elim (fun x3_ => Or.inr (Or.inr (Or.inr (Or.inl (x3_))))) (fun y3_ => y3_.elim (fun x4_ => Or.inr (Or.inr (Or.inr (Or.inr (Or.inl (x4_)))))) (fun y4_ => y4_.elim (fun x5_ => Or.inr (Or.inr (Or.inr (Or.inr (Or.inr (Or.inl (x5_))))))) (fun y5_ => y5_.elim (fun x6_ => Or.inr (Or.inr (Or.inr (Or.inr (Or.inr (Or.inr (Or.inl (x6_)))))))) (fun y6_ => Or.inr (Or.inr (Or.inr (Or.inr (Or.inr (Or.inr (Or.inr (y6_))))))))))))))))]) (by omega)
          · skip
            refine dk_iconst (pc' := 59) hE dX2_readInto_58 (by decide) rfl ?_
            have hw27 : 13 ≤ r ∧ r ≤ 36 := by omega
            have hw28 : 13 ≤ r + 2 ∧ r + 2 ≤ 36 := by omega
            have hw29 : 13 ≤ r + 3 ∧ r + 3 ≤ 36 := by omega
            exact dk_zret (st := []) hE hR dX2_readInto_59 (by omega) ⟨_, rfl, (fun k_ j_ h_ => by rw [hfσ22 k_ j_ (fun w_ => h_ (w_.elim (fun x0_ => Or.inl (x0_)) (fun y0_ => y0_.elim (fun x1_ => Or.inr (Or.inl (x1_))) (fun y1_ => y1_.elim (fun x2_ => Or.inr (Or.inr (Or.inl (x2_)))) (fun y2_ => y2_.elim (fun x3_ => Or.inr (Or.inr (Or.inr (Or.inl (x3_))))) (fun y3_ => y3_.elim (fun x4_ => Or.inr (Or.inr (Or.inr (Or.inr (Or.inl (x4_)))))) (fun y4_ => y4_.elim (fun x5_ => Or.inr (Or.inr (Or.inr (Or.inr (Or.inr (Or.inl (x5_))))))) (fun y5_ => y5_.elim (fun x6_ => Or.inr (Or.inr (Or.inr (Or.inr (Or.inr (Or.inr (Or.inl (x6_)))))))) (fun y6_ => Or.inr (Or.inr (Or.inr (Or.inr (Or.inr (Or.inr (Or.inr (Or.inl (y6_))))))))))))))))), hF36 k_ j_ (fun w_ => h_ (w_.elim (fun x0_ => Or.inl (x0_)) (fun y0_ => y0_.elim (fun x1_ => Or.inr (Or.inl (x1_))) (fun y1_ => y1_.elim (fun x2_ => Or.inr (Or.inr (Or.inl (x2_)))) (fun y2_ => y2_.elim (fun x3_ => Or.inr (Or.inr (Or.inr (Or.inl (x3_))))) (fun y3_ => y3_.elim (fun x4_ => Or.inr (Or.inr (Or.inr (Or.inr (Or.inl (x4_)))))) (fun y4_ => y4_.elim (fun x5_ => Or.inr (Or.inr (Or.inr (Or.inr (Or.inr (Or.inl (x5_))))))) (fun y5_ => y5_.elim (fun x6_ => Or.inr (Or.inr (Or.inr (Or.inr (Or.inr (Or.inr (Or.inl (x6_)))))))) (fun y6_ => Or.inr (Or.inr (Or.inr (Or.inr (Or.inr (Or.inr (Or.inr (Or.inl (y6_))))))))))))))))), hfσ8 k_ j_ (fun w_ => h_ (Or.inl (w_))), eσ7, dk_up_n (show ¬ (k_ = 10 ∧ j_ = 7) from fun q_ => h_ (Or.inr (Or.inr (Or.inr (Or.inr (Or.inr (Or.inl (q_)))))))), eσ6, dk_up_n (show ¬ (k_ = 10 ∧ j_ = 6) from fun q_ => h_ (Or.inr (Or.inr (Or.inr (Or.inr (Or.inl (q_))))))), eσ5, dk_up_n (show ¬ (k_ = 10 ∧ j_ = 4) from fun q_ => h_ (Or.inr (Or.inr (Or.inr (Or.inl (q_)))))), hfσ3 k_ j_ (fun w_ => h_ (w_.elim (fun x0_ => Or.inr (Or.inr (Or.inr (Or.inr (Or.inr (Or.inr (Or.inr (Or.inl (dk_wr x0_.1 hw27))))))))) (fun y0_ => y0_.elim (fun x1_ => Or.inr (Or.inr (Or.inr (Or.inr (Or.inr (Or.inr (Or.inr (Or.inl (dk_wr x1_ hw28))))))))) (fun y1_ => Or.inr (Or.inr (Or.inr (Or.inr (Or.inr (Or.inr (Or.inr (Or.inl (dk_wr y1_ hw29)))))))))))), eσ1, dk_up_n (show ¬ (k_ = 10 ∧ j_ = 5) from fun q_ => h_ (Or.inr (Or.inr (Or.inr (Or.inr (Or.inr (Or.inr (Or.inr (Or.inr (q_))))))))))]), by omega⟩
  exact lp36 _ 0 σ8 (Nat.lt_succ_self _) (fun k_ j_ h_ => rfl) (by omega)
