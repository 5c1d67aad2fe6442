theorem fpn18_75 {k j : Int} (h : k = 75) : ¬ sFP k j := by subst h; omega
theorem fpw18_769767720 : ∀ k_ j_ : Int, sFP k_ j_ → ¬ ((77 ≤ k_ ∧ k_ ≤ 84) ∨ (72 ≤ k_ ∧ k_ ≤ 73)) := by intro k_ j_ h; omega
set_option maxHeartbeats 4000000 in
set_option maxRecDepth 20000 in
theorem ct_X0_isWilling (l : Launch) (G : dkG) (hGd : dk_Gd G) (a b : Int) : dk_Ct l G dk_Ty yX0_isWilling cX0_isWilling 3 (some .boolean) 1 190 190 (fun av σ => av = [(4, 75), (0, a), (0, b)] ∧ (0 ≤ a ∧ a < 8) ∧ (0 ≤ b ∧ b < 10)) (fun _ σ r_ σ' => ∃ z : Int, r_ = some (0, z) ∧ (∀ k_ j_ : Int, ¬ (False) → σ' k_ j_ = σ k_ j_) ∧ (0 ≤ z ∧ z ≤ 1)) := by
  refine dk_enter hGd (by decide) (fun av σ hpre hok => ?_)
  obtain ⟨rfl, ha, hb⟩ := hpre
  refine ⟨Nat.le_of_ble_eq_true rfl, fun E hE hR _ => ?_⟩
  have hi_a : dk_i32 a := dk_oki (hok _ (by simp))
  have hi_b : dk_i32 b := dk_oki (hok _ (by simp))
  show dk_PJ E 0 [(4, 75), (0, a), (0, b)] [] 190 σ
  refine dk_aload_n (pc' := 1) hE dX0_isWilling_0 rfl rfl rfl ?_
  refine gf_0_0 (pc' := 4) (w := 76) hE fl_X0_15 dX0_isWilling_1 is_75 rfl rfl ?_
  refine dk_iload_n (pc' := 5) hE dX0_isWilling_4 rfl rfl rfl ?_
  refine ga_48 (pc' := 6) (w := (77 + a)) hE dX0_isWilling_5 is_76 (by omega) (by omega) rfl ?_
  refine dk_iload_n (pc' := 7) hE dX0_isWilling_6 rfl rfl rfl ?_
  refine ga_49 (pc' := 8) hE dX0_isWilling_7 (rw_weights (by omega)) (by omega) rfl (fun v1 hv1 htv1 hbv1 => ?_)
  refine dk_ldc2 (pc' := 11) hE dX0_isWilling_8 cs_X0_59 (by decide) rfl ?_
  refine dk_lcmp (pc' := 12) hE dX0_isWilling_11 rfl (fun v2 hv2 => ?_)
  refine dk_if_eq (tgt := 19) (pc' := 15) hE dX0_isWilling_12 (by decide) rfl (fun hc3 => ?_) (fun hc3 => ?_)
  · skip
    refine dk_iconst (pc' := 20) hE dX0_isWilling_19 (by decide) rfl ?_
    exact dk_zret (st := []) hE hR dX0_isWilling_20 (by omega) ⟨_, rfl, (fun k_ j_ h_ => rfl), by omega⟩
  · skip
    refine dk_iconst (pc' := 16) hE dX0_isWilling_15 (by decide) rfl ?_
    refine dk_goto (tgt := 20) hE dX0_isWilling_16 (by decide) ?_
    exact dk_zret (st := []) hE hR dX0_isWilling_20 (by omega) ⟨_, rfl, (fun k_ j_ h_ => rfl), by omega⟩
set_option maxHeartbeats 4000000 in
set_option maxRecDepth 20000 in
theorem ct_X0_bodyOf (l : Launch) (G : dkG) (hGd : dk_Gd G) (a : Int) : dk_Ct l G dk_Ty yX0_bodyOf cX0_bodyOf 2 (some .int) 1 190 190 (fun av σ => av = [(4, 75), (0, a)] ∧ (0 ≤ a ∧ a < 8)) (fun _ σ r_ σ' => ∃ z : Int, r_ = some (0, z) ∧ (∀ k_ j_ : Int, ¬ (False) → σ' k_ j_ = σ k_ j_) ∧ (0 ≤ z ∧ z ≤ 9)) := by
  refine dk_enter hGd (by decide) (fun av σ hpre hok => ?_)
  obtain ⟨rfl, ha⟩ := hpre
  refine ⟨Nat.le_of_ble_eq_true rfl, fun E hE hR _ => ?_⟩
  have hi_a : dk_i32 a := dk_oki (hok _ (by simp))
  show dk_PJ E 0 [(4, 75), (0, a)] [] 190 σ
  refine dk_aload_n (pc' := 1) hE dX0_bodyOf_0 rfl rfl rfl ?_
  refine gf_0_2 (pc' := 4) (w := 86) hE fl_X0_24 dX0_bodyOf_1 is_75 rfl rfl ?_
  refine dk_iload_n (pc' := 5) hE dX0_bodyOf_4 rfl rfl rfl ?_
  refine ga_51 (pc' := 6) hE dX0_bodyOf_5 is_86 (by omega) rfl (fun v1 hv1 htv1 hbv1 => ?_)
  exact dk_iret (st := []) hE hR dX0_bodyOf_6 ⟨_, rfl, (fun k_ j_ h_ => rfl), by omega⟩
set_option maxHeartbeats 4000000 in
set_option maxRecDepth 20000 in
theorem ct_X0_inCast (l : Launch) (G : dkG) (hGd : dk_Gd G) : dk_Ct l G dk_Ty yX0_inCast cX0_inCast 3 (some .int) 1 190 190 (fun av σ => av = [(4, 75)]) (fun _ σ r_ σ' => ∃ z : Int, r_ = some (0, z) ∧ (∀ k_ j_ : Int, ¬ (False) → σ' k_ j_ = σ k_ j_) ∧ (True)) := by
  refine dk_enter hGd (by decide) (fun av σ hpre hok => ?_)
  subst hpre
  refine ⟨Nat.le_of_ble_eq_true rfl, fun E hE hR _ => ?_⟩
  show dk_PJ E 0 [(4, 75), (9, 0), (9, 0)] [] 190 σ
  refine dk_iconst (pc' := 1) hE dX0_inCast_0 (by decide) rfl ?_
  refine dk_istore_n (pc' := 2) (ls' := [(4, 75), (0, 0), (9, 0)]) hE dX0_inCast_1 rfl rfl (by decide) rfl ?_
  refine dk_iconst (pc' := 3) hE dX0_inCast_2 (by decide) rfl ?_
  refine dk_istore_n (pc' := 4) (ls' := [(4, 75), (0, 0), (0, 0)]) hE dX0_inCast_3 rfl rfl (by decide) rfl ?_
  have lp4 : ∀ (N_ : Nat) (m i : Int) (σ4c : dkS), (2147483648 - i).toNat < N_ → ((∀ k_ j_ : Int, ¬ (False) → σ4c k_ j_ = σ k_ j_)) → (0 ≤ i) → dk_PJ E 4 [(4, 75), (0, m), (0, i)] [] 190 σ4c := by
    intro N4
    induction N4 with
    | zero => intro m i σ4c hm; exact absurd hm (Nat.not_lt_zero _)
    | succ N4 ih4 =>
      intro m i σ4c hm4 hF4 hi0
      refine dk_aload_n (pc' := 5) hE dX0_inCast_4 rfl rfl rfl ?_
      refine gf_0_6 (pc' := 8) hE fl_X0_65 dX0_inCast_5 is_75 rfl (fun v1 hv1 htv1 hbv1 => ?_)
      refine dk_if_eq (tgt := 36) (pc' := 11) hE dX0_inCast_8 (by decide) rfl (fun hc2 => ?_) (fun hc2 => ?_)
      · skip
        refine dk_iload_n (pc' := 37) hE dX0_inCast_36 rfl rfl rfl ?_
        exact dk_iret (st := []) hE hR dX0_inCast_37 ⟨_, rfl, (fun k_ j_ h_ => by rw [hF4 k_ j_ not_false]), trivial⟩
      · skip
        refine dk_iload_n (pc' := 12) hE dX0_inCast_11 rfl rfl rfl ?_
        refine dk_aload_n (pc' := 13) hE dX0_inCast_12 rfl rfl rfl ?_
        refine gf_0_4 (pc' := 16) hE fl_X0_40 dX0_inCast_13 is_75 rfl (fun v3 hv3 htv3 hbv3 => ?_)
        refine dk_icmp_ge (tgt := 36) (pc' := 19) hE dX0_inCast_16 (by decide) rfl (fun hc4 => ?_) (fun hc4 => ?_)
        · skip
          refine dk_iload_n (pc' := 37) hE dX0_inCast_36 rfl rfl rfl ?_
          exact dk_iret (st := []) hE hR dX0_inCast_37 ⟨_, rfl, (fun k_ j_ h_ => by rw [hF4 k_ j_ not_false]), trivial⟩
        · skip
          refine dk_iload_n (pc' := 20) hE dX0_inCast_19 rfl rfl rfl ?_
          refine dk_iconst (pc' := 21) hE dX0_inCast_20 (by decide) rfl ?_
          refine dk_aload_n (pc' := 22) hE dX0_inCast_21 rfl rfl rfl ?_
          refine gf_0_2 (pc' := 25) (w := 86) hE fl_X0_24 dX0_inCast_22 is_75 rfl rfl ?_
          refine dk_iload_n (pc' := 26) hE dX0_inCast_25 rfl rfl rfl ?_
          refine ga_51 (pc' := 27) hE dX0_inCast_26 is_86 (by omega) rfl (fun v5 hv5 htv5 hbv5 => ?_)
          refine dk_ishl (pc' := 28) hE dX0_inCast_27 rfl (fun v6 hv6 ev6 => ?_)
          refine dk_ior (pc' := 29) hE dX0_inCast_28 rfl (fun v7 hv7 ev7 => ?_)
          refine dk_istore_n (pc' := 30) (ls' := [(4, 75), (0, v7), (0, i)]) hE dX0_inCast_29 rfl rfl (by decide) rfl ?_
          obtain ⟨v8, hv8⟩ : ∃ z : Int, z = i + 1 := ⟨_, rfl⟩
          refine dk_iinc (pc' := 33) (ls' := [(4, 75), (0, v7), (0, v8)]) hE dX0_inCast_30 rfl hv8.symm (by omega) rfl (by decide) rfl ?_
          refine dk_goto (tgt := 4) hE dX0_inCast_33 (by decide) ?_
          exact ih4 v7 v8 σ4c (by omega) (fun k_ j_ h_ => by rw [hF4 k_ j_ not_false]) (by omega)
  exact lp4 _ 0 0 σ (Nat.lt_succ_self _) (fun k_ j_ h_ => rfl) (by omega)
set_option maxHeartbeats 4000000 in
set_option maxRecDepth 20000 in
theorem ct_X0_changed (l : Launch) (G : dkG) (hGd : dk_Gd G) : dk_Ct l G dk_Ty yX0_changed cX0_changed 3 (some .int) 1 190 190 (fun av σ => av = [(4, 75)]) (fun _ σ r_ σ' => ∃ z : Int, r_ = some (0, z) ∧ (∀ k_ j_ : Int, ¬ (False) → σ' k_ j_ = σ k_ j_) ∧ (True)) := by
  refine dk_enter hGd (by decide) (fun av σ hpre hok => ?_)
  subst hpre
  refine ⟨Nat.le_of_ble_eq_true rfl, fun E hE hR _ => ?_⟩
  show dk_PJ E 0 [(4, 75), (9, 0), (9, 0)] [] 190 σ
  refine dk_iconst (pc' := 1) hE dX0_changed_0 (by decide) rfl ?_
  refine dk_istore_n (pc' := 2) (ls' := [(4, 75), (0, 0), (9, 0)]) hE dX0_changed_1 rfl rfl (by decide) rfl ?_
  refine dk_iconst (pc' := 3) hE dX0_changed_2 (by decide) rfl ?_
  refine dk_istore_n (pc' := 4) (ls' := [(4, 75), (0, 0), (0, 0)]) hE dX0_changed_3 rfl rfl (by decide) rfl ?_
  have lp4 : ∀ (N_ : Nat) (m i : Int) (σ4c : dkS), (2147483648 - i).toNat < N_ → ((∀ k_ j_ : Int, ¬ (False) → σ4c k_ j_ = σ k_ j_)) → (0 ≤ i) → (0 ≤ m ∧ m ≤ i) → dk_PJ E 4 [(4, 75), (0, m), (0, i)] [] 190 σ4c := by
    intro N4
    induction N4 with
    | zero => intro m i σ4c hm; exact absurd hm (Nat.not_lt_zero _)
    | succ N4 ih4 =>
      intro m i σ4c hm4 hF4 hi0 hm
      refine dk_iload_n (pc' := 5) hE dX0_changed_4 rfl rfl rfl ?_
      refine dk_aload_n (pc' := 6) hE dX0_changed_5 rfl rfl rfl ?_
      refine gf_0_4 (pc' := 9) hE fl_X0_40 dX0_changed_6 is_75 rfl (fun v1 hv1 htv1 hbv1 => ?_)
      refine dk_icmp_ge (tgt := 36) (pc' := 12) hE dX0_changed_9 (by decide) rfl (fun hc2 => ?_) (fun hc2 => ?_)
      · skip
        refine dk_iload_n (pc' := 37) hE dX0_changed_36 rfl rfl rfl ?_
        exact dk_iret (st := []) hE hR dX0_changed_37 ⟨_, rfl, (fun k_ j_ h_ => by rw [hF4 k_ j_ not_false]), trivial⟩
      · skip
        refine dk_aload_n (pc' := 13) hE dX0_changed_12 rfl rfl rfl ?_
        refine gf_0_2 (pc' := 16) (w := 86) hE fl_X0_24 dX0_changed_13 is_75 rfl rfl ?_
        refine dk_iload_n (pc' := 17) hE dX0_changed_16 rfl rfl rfl ?_
        refine ga_51 (pc' := 18) hE dX0_changed_17 is_86 (by omega) rfl (fun v3 hv3 htv3 hbv3 => ?_)
        refine dk_aload_n (pc' := 19) hE dX0_changed_18 rfl rfl rfl ?_
        refine gf_0_3 (pc' := 22) (w := 87) hE fl_X0_28 dX0_changed_19 is_75 rfl rfl ?_
        refine dk_iload_n (pc' := 23) hE dX0_changed_22 rfl rfl rfl ?_
        refine ga_52 (pc' := 24) hE dX0_changed_23 is_87 (by omega) rfl (fun v4 hv4 htv4 hbv4 => ?_)
        refine dk_icmp_eq (tgt := 30) (pc' := 27) hE dX0_changed_24 (by decide) rfl (fun hc5 => ?_) (fun hc5 => ?_)
        · skip
          obtain ⟨v6, hv6⟩ : ∃ z : Int, z = i + 1 := ⟨_, rfl⟩
          refine dk_iinc (pc' := 33) (ls' := [(4, 75), (0, m), (0, v6)]) hE dX0_changed_30 rfl hv6.symm (by omega) rfl (by decide) rfl ?_
          refine dk_goto (tgt := 4) hE dX0_changed_33 (by decide) ?_
          exact ih4 m v6 σ4c (by omega) (fun k_ j_ h_ => by rw [hF4 k_ j_ not_false]) (by omega) (by omega)
        · skip
          obtain ⟨v7, hv7⟩ : ∃ z : Int, z = m + 1 := ⟨_, rfl⟩
          refine dk_iinc (pc' := 30) (ls' := [(4, 75), (0, v7), (0, i)]) hE dX0_changed_27 rfl hv7.symm (by omega) rfl (by decide) rfl ?_
          obtain ⟨v8, hv8⟩ : ∃ z : Int, z = i + 1 := ⟨_, rfl⟩
          refine dk_iinc (pc' := 33) (ls' := [(4, 75), (0, v7), (0, v8)]) hE dX0_changed_30 rfl hv8.symm (by omega) rfl (by decide) rfl ?_
          refine dk_goto (tgt := 4) hE dX0_changed_33 (by decide) ?_
          exact ih4 v7 v8 σ4c (by omega) (fun k_ j_ h_ => by rw [hF4 k_ j_ not_false]) (by omega) (by omega)
  exact lp4 _ 0 0 σ (Nat.lt_succ_self _) (fun k_ j_ h_ => rfl) (by omega) (by omega)
set_option maxHeartbeats 4000000 in
set_option maxRecDepth 20000 in
theorem ct_X0_leastFrom (l : Launch) (G : dkG) (hGd : dk_Gd G) (a t : Int) : dk_Ct l G dk_Ty yX0_leastFrom cX0_leastFrom 8 (some .long) 2 190 190 (fun av σ => av = [(4, 75), (0, a), (0, t)] ∧ (0 ≤ a ∧ a < 8) ∧ (0 ≤ t ∧ t ≤ 1023)) (fun _ σ r_ σ' => ∃ z : Int, r_ = some (3, z) ∧ (∀ k_ j_ : Int, ¬ (False) → σ' k_ j_ = σ k_ j_) ∧ (True)) := by
  refine dk_enter hGd (by decide) (fun av σ hpre hok => ?_)
  obtain ⟨rfl, ha, ht⟩ := hpre
  refine ⟨Nat.le_of_ble_eq_true rfl, fun E hE hR _ => ?_⟩
  have hi_a : dk_i32 a := dk_oki (hok _ (by simp))
  have hi_t : dk_i32 t := dk_oki (hok _ (by simp))
  show dk_PJ E 0 [(4, 75), (0, a), (0, t), (9, 0), (9, 0), (9, 0), (9, 0), (9, 0)] [] 190 σ
  refine dk_aload_n (pc' := 1) hE dX0_leastFrom_0 rfl rfl rfl ?_
  refine gf_0_0 (pc' := 4) (w := 76) hE fl_X0_15 dX0_leastFrom_1 is_75 rfl rfl ?_
  refine dk_iload_n (pc' := 5) hE dX0_leastFrom_4 rfl rfl rfl ?_
  refine ga_48 (pc' := 6) (w := (77 + a)) hE dX0_leastFrom_5 is_76 (by omega) (by omega) rfl ?_
  refine dk_astore_n (pc' := 7) (ls' := [(4, 75), (0, a), (0, t), (4, (77 + a)), (9, 0), (9, 0), (9, 0), (9, 0)]) hE dX0_leastFrom_6 rfl rfl (by decide) rfl ?_
  refine dk_ldc2 (pc' := 10) hE dX0_leastFrom_7 cs_X0_59 (by decide) rfl ?_
  refine dk_lstore (pc' := 12) (ls' := [(4, 75), (0, a), (0, t), (4, (77 + a)), (3, 9223372036854775807), (9, 0), (9, 0), (9, 0)]) hE dX0_leastFrom_10 rfl (by decide) rfl ?_
  refine dk_iconst (pc' := 13) hE dX0_leastFrom_12 (by decide) rfl ?_
  refine dk_istore (pc' := 15) (ls' := [(4, 75), (0, a), (0, t), (4, (77 + a)), (3, 9223372036854775807), (9, 0), (0, 0), (9, 0)]) hE dX0_leastFrom_13 rfl (by decide) rfl ?_
  have lp15 : ∀ (N_ : Nat) (m b : Int) (σ15c : dkS), (2147483648 - b).toNat < N_ → ((∀ k_ j_ : Int, ¬ (False) → σ15c k_ j_ = σ k_ j_)) → (0 ≤ b) → dk_PJ E 15 [(4, 75), (0, a), (0, t), (4, (77 + a)), (3, m), (9, 0), (0, b), (9, 0)] [] 190 σ15c := by
    intro N15
    induction N15 with
    | zero => intro m b σ15c hm; exact absurd hm (Nat.not_lt_zero _)
    | succ N15 ih15 =>
      intro m b σ15c hm15 hF15 hb0
      refine dk_iload (pc' := 17) hE dX0_leastFrom_15 rfl rfl ?_
      refine dk_aload_n (pc' := 18) hE dX0_leastFrom_17 rfl rfl rfl ?_
      refine gf_0_5 (pc' := 21) hE fl_X0_47 dX0_leastFrom_18 is_75 rfl (fun v1 hv1 htv1 hbv1 => ?_)
      refine dk_icmp_ge (tgt := 88) (pc' := 24) hE dX0_leastFrom_21 (by decide) rfl (fun hc2 => ?_) (fun hc2 => ?_)
      · skip
        refine dk_lload (pc' := 90) hE dX0_leastFrom_88 rfl rfl ?_
        exact dk_lret (st := []) hE hR dX0_leastFrom_90 ⟨_, rfl, (fun k_ j_ h_ => by rw [hF15 k_ j_ not_false]), trivial⟩
      · skip
        refine dk_iload_n (pc' := 25) hE dX0_leastFrom_24 rfl rfl rfl ?_
        refine dk_iconst (pc' := 26) hE dX0_leastFrom_25 (by decide) rfl ?_
        refine dk_iload (pc' := 28) hE dX0_leastFrom_26 rfl rfl ?_
        refine dk_ishl (pc' := 29) hE dX0_leastFrom_28 rfl (fun v3 hv3 ev3 => ?_)
        have hxv3 := dk_shl1 (b := b) (by omega) ev3
        refine dk_ior (pc' := 30) hE dX0_leastFrom_29 rfl (fun v4 hv4 ev4 => ?_)
        have hxv4 := dk_or1024 (x := t) (y := v3) (by omega) (by omega) ev4
        refine dk_istore (pc' := 32) (ls' := [(4, 75), (0, a), (0, t), (4, (77 + a)), (3, m), (9, 0), (0, b), (0, v4)]) hE dX0_leastFrom_30 rfl (by decide) rfl ?_
        refine dk_iload (pc' := 34) hE dX0_leastFrom_32 rfl rfl ?_
        refine dk_iload_n (pc' := 35) hE dX0_leastFrom_34 rfl rfl rfl ?_
        refine dk_icmp_eq (tgt := 82) (pc' := 38) hE dX0_leastFrom_35 (by decide) rfl (fun hc5 => ?_) (fun hc5 => ?_)
        · skip
          obtain ⟨v6, hv6⟩ : ∃ z : Int, z = b + 1 := ⟨_, rfl⟩
          refine dk_iinc (pc' := 85) (ls' := [(4, 75), (0, a), (0, t), (4, (77 + a)), (3, m), (9, 0), (0, v6), (0, v4)]) hE dX0_leastFrom_82 rfl hv6.symm (by omega) rfl (by decide) rfl ?_
          refine dk_goto (tgt := 15) hE dX0_leastFrom_85 (by decide) ?_
          refine dk_drop (ls' := [(4, 75), (0, a), (0, t), (4, (77 + a)), (3, m), (9, 0), (0, v6), (9, 0)]) [true, true, true, true, true, false, true, false] rfl ?_
          exact ih15 m v6 σ15c (by omega) (fun k_ j_ h_ => by rw [hF15 k_ j_ not_false]) (by omega)
        · skip
          refine dk_aload_n (pc' := 39) hE dX0_leastFrom_38 rfl rfl rfl ?_
          refine dk_iload (pc' := 41) hE dX0_leastFrom_39 rfl rfl ?_
          refine ga_49 (pc' := 42) hE dX0_leastFrom_41 (rw_weights (by omega)) (by omega) rfl (fun v7 hv7 htv7 hbv7 => ?_)
          refine dk_ldc2 (pc' := 45) hE dX0_leastFrom_42 cs_X0_59 (by decide) rfl ?_
          refine dk_lcmp (pc' := 46) hE dX0_leastFrom_45 rfl (fun v8 hv8 => ?_)
          refine dk_if_eq (tgt := 82) (pc' := 49) hE dX0_leastFrom_46 (by decide) rfl (fun hc9 => ?_) (fun hc9 => ?_)
          · skip
            obtain ⟨v10, hv10⟩ : ∃ z : Int, z = b + 1 := ⟨_, rfl⟩
            refine dk_iinc (pc' := 85) (ls' := [(4, 75), (0, a), (0, t), (4, (77 + a)), (3, m), (9, 0), (0, v10), (0, v4)]) hE dX0_leastFrom_82 rfl hv10.symm (by omega) rfl (by decide) rfl ?_
            refine dk_goto (tgt := 15) hE dX0_leastFrom_85 (by decide) ?_
            refine dk_drop (ls' := [(4, 75), (0, a), (0, t), (4, (77 + a)), (3, m), (9, 0), (0, v10), (9, 0)]) [true, true, true, true, true, false, true, false] rfl ?_
            exact ih15 m v10 σ15c (by omega) (fun k_ j_ h_ => by rw [hF15 k_ j_ not_false]) (by omega)
          · skip
            refine dk_aload_n (pc' := 50) hE dX0_leastFrom_49 rfl rfl rfl ?_
            refine gf_0_1 (pc' := 53) (w := 85) hE fl_X0_20 dX0_leastFrom_50 is_75 rfl rfl ?_
            refine dk_iload (pc' := 55) hE dX0_leastFrom_53 rfl rfl ?_
            refine ga_50 (pc' := 56) hE dX0_leastFrom_55 is_85 (by omega) rfl (fun v11 hv11 htv11 hbv11 => ?_)
            refine dk_ldc2 (pc' := 59) hE dX0_leastFrom_56 cs_X0_59 (by decide) rfl ?_
            refine dk_lcmp (pc' := 60) hE dX0_leastFrom_59 rfl (fun v12 hv12 => ?_)
            refine dk_if_eq (tgt := 82) (pc' := 63) hE dX0_leastFrom_60 (by decide) rfl (fun hc13 => ?_) (fun hc13 => ?_)
            · skip
              obtain ⟨v14, hv14⟩ : ∃ z : Int, z = b + 1 := ⟨_, rfl⟩
              refine dk_iinc (pc' := 85) (ls' := [(4, 75), (0, a), (0, t), (4, (77 + a)), (3, m), (9, 0), (0, v14), (0, v4)]) hE dX0_leastFrom_82 rfl hv14.symm (by omega) rfl (by decide) rfl ?_
              refine dk_goto (tgt := 15) hE dX0_leastFrom_85 (by decide) ?_
              refine dk_drop (ls' := [(4, 75), (0, a), (0, t), (4, (77 + a)), (3, m), (9, 0), (0, v14), (9, 0)]) [true, true, true, true, true, false, true, false] rfl ?_
              exact ih15 m v14 σ15c (by omega) (fun k_ j_ h_ => by rw [hF15 k_ j_ not_false]) (by omega)
            · skip
              refine dk_lload (pc' := 65) hE dX0_leastFrom_63 rfl rfl ?_
              refine dk_aload_n (pc' := 66) hE dX0_leastFrom_65 rfl rfl rfl ?_
              refine dk_iload (pc' := 68) hE dX0_leastFrom_66 rfl rfl ?_
              refine ga_49 (pc' := 69) hE dX0_leastFrom_68 (rw_weights (by omega)) (by omega) rfl (fun v15 hv15 htv15 hbv15 => ?_)
              have hq15 : v7 = v15 := (show v15 = v7 by rw [hv15, hv7]).symm
              subst hq15
              clear htv15 hbv15
              refine dk_aload_n (pc' := 70) hE dX0_leastFrom_69 rfl rfl rfl ?_
              refine gf_0_1 (pc' := 73) (w := 85) hE fl_X0_20 dX0_leastFrom_70 is_75 rfl rfl ?_
              refine dk_iload (pc' := 75) hE dX0_leastFrom_73 rfl rfl ?_
              refine ga_50 (pc' := 76) hE dX0_leastFrom_75 is_85 (by omega) rfl (fun v16 hv16 htv16 hbv16 => ?_)
              have hq16 : v11 = v16 := (show v16 = v11 by rw [hv16, hv11]).symm
              subst hq16
              clear htv16 hbv16
              refine dk_ladd (pc' := 77) hE dX0_leastFrom_76 rfl (fun v17 hv17 _ => ?_)
              refine dk_lmin (pc' := 80) hE wd_1157 dX0_leastFrom_77 (Nat.le_of_ble_eq_true rfl) (by omega) rfl (fun v18 hv18 => ?_)
              refine dk_lstore (pc' := 82) (ls' := [(4, 75), (0, a), (0, t), (4, (77 + a)), (3, v18), (9, 0), (0, b), (0, v4)]) hE dX0_leastFrom_80 rfl (by decide) rfl ?_
              obtain ⟨v19, hv19⟩ : ∃ z : Int, z = b + 1 := ⟨_, rfl⟩
              refine dk_iinc (pc' := 85) (ls' := [(4, 75), (0, a), (0, t), (4, (77 + a)), (3, v18), (9, 0), (0, v19), (0, v4)]) hE dX0_leastFrom_82 rfl hv19.symm (by omega) rfl (by decide) rfl ?_
              refine dk_goto (tgt := 15) hE dX0_leastFrom_85 (by decide) ?_
              refine dk_drop (ls' := [(4, 75), (0, a), (0, t), (4, (77 + a)), (3, v18), (9, 0), (0, v19), (9, 0)]) [true, true, true, true, true, false, true, false] rfl ?_
              exact ih15 v18 v19 σ15c (by omega) (fun k_ j_ h_ => by rw [hF15 k_ j_ not_false]) (by omega)
  exact lp15 _ 9223372036854775807 0 σ (Nat.lt_succ_self _) (fun k_ j_ h_ => rfl) (by omega)
set_option maxHeartbeats 4000000 in
set_option maxRecDepth 20000 in
theorem ct_X0_leastRest (l : Launch) (G : dkG) (hGd : dk_Gd G) : dk_Ct l G dk_Ty yX0_leastRest cX0_leastRest 3 (some .boolean) 3 190 190 (fun av σ => av = [(4, 75)]) (fun _ σ r_ σ' => ∃ z : Int, r_ = some (0, z) ∧ (∀ k_ j_ : Int, ¬ (k_ = 85) → σ' k_ j_ = σ k_ j_) ∧ (0 ≤ z ∧ z ≤ 1)) := by
  refine dk_enter hGd (by decide) (fun av σ hpre hok => ?_)
  subst hpre
  refine ⟨Nat.le_of_ble_eq_true rfl, fun E hE hR _ => ?_⟩
  show dk_PJ E 0 [(4, 75), (9, 0), (9, 0)] [] 190 σ
  refine dk_iconst (pc' := 1) hE dX0_leastRest_0 (by decide) rfl ?_
  refine dk_aload_n (pc' := 2) hE dX0_leastRest_1 rfl rfl rfl ?_
  refine gf_0_5 (pc' := 5) hE fl_X0_47 dX0_leastRest_2 is_75 rfl (fun v1 hv1 htv1 hbv1 => ?_)
  refine dk_ishl (pc' := 6) hE dX0_leastRest_5 rfl (fun v2 hv2 ev2 => ?_)
  have hxv2 := dk_shl1 (b := v1) (by omega) ev2
  refine dk_iconst (pc' := 7) hE dX0_leastRest_6 (by decide) rfl ?_
  obtain ⟨v3, hv3⟩ : ∃ z : Int, z = v2 - 1 := ⟨_, rfl⟩
  refine dk_isub (pc' := 8) hE dX0_leastRest_7 hv3.symm (by omega) rfl ?_
  refine dk_istore_n (pc' := 9) (ls' := [(4, 75), (0, v3), (9, 0)]) hE dX0_leastRest_8 rfl rfl (by decide) rfl ?_
  have lp9 : ∀ (N_ : Nat) (t : Int) (σ9c : dkS), (t + 1).toNat < N_ → ((∀ k_ j_ : Int, ¬ (k_ = 85) → σ9c k_ j_ = σ k_ j_)) → (-1 ≤ t ∧ t ≤ 1023) → dk_PJ E 9 [(4, 75), (0, t), (9, 0)] [] 190 σ9c := by
    intro N9
    induction N9 with
    | zero => intro t σ9c hm; exact absurd hm (Nat.not_lt_zero _)
    | succ N9 ih9 =>
      intro t σ9c hm9 hF9 ht
      refine dk_iload_n (pc' := 10) hE dX0_leastRest_9 rfl rfl rfl ?_
      refine dk_if_lt (tgt := 54) (pc' := 13) hE dX0_leastRest_10 (by decide) rfl (fun hc4 => ?_) (fun hc4 => ?_)
      · skip
        refine dk_aload_n (pc' := 55) hE dX0_leastRest_54 rfl rfl rfl ?_
        refine gf_0_1 (pc' := 58) (w := 85) hE fl_X0_20 dX0_leastRest_55 is_75 rfl rfl ?_
        refine dk_iconst (pc' := 59) hE dX0_leastRest_58 (by decide) rfl ?_
        refine ga_50 (pc' := 60) hE dX0_leastRest_59 is_85 (by omega) rfl (fun v5 hv5 htv5 hbv5 => ?_)
        refine dk_ldc2 (pc' := 63) hE dX0_leastRest_60 cs_X0_59 (by decide) rfl ?_
        refine dk_lcmp (pc' := 64) hE dX0_leastRest_63 rfl (fun v6 hv6 => ?_)
        refine dk_if_eq (tgt := 71) (pc' := 67) hE dX0_leastRest_64 (by decide) rfl (fun hc7 => ?_) (fun hc7 => ?_)
        · skip
          refine dk_iconst (pc' := 72) hE dX0_leastRest_71 (by decide) rfl ?_
          exact dk_zret (st := []) hE hR dX0_leastRest_72 (by omega) ⟨_, rfl, (fun k_ j_ h_ => by rw [hF9 k_ j_ (fun w_ => h_ (w_))]), by omega⟩
        · skip
          refine dk_iconst (pc' := 68) hE dX0_leastRest_67 (by decide) rfl ?_
          refine dk_goto (tgt := 72) hE dX0_leastRest_68 (by decide) ?_
          exact dk_zret (st := []) hE hR dX0_leastRest_72 (by omega) ⟨_, rfl, (fun k_ j_ h_ => by rw [hF9 k_ j_ (fun w_ => h_ (w_))]), by omega⟩
      · skip
        refine dk_iload_n (pc' := 14) hE dX0_leastRest_13 rfl rfl rfl ?_
        refine dk_cS (pc' := 17) (as := [(0, t)]) hE lk_X0_81 (ct_J6_bitCount_0f7a4 l G hGd t) dX0_leastRest_14 rfl rfl (by decide) (Nat.le_of_ble_eq_true rfl) rfl rfl (fun r9 σ8 hr9 hor9 => ?_)
        obtain ⟨v10, rfl, hfσ8, hpr9⟩ := hr9
        have hsσ8 : σ9c = σ8 := (funext (fun k => funext (fun j => hfσ8 k j not_false))).symm
        subst hsσ8
        refine dk_istore_n (pc' := 18) (ls' := [(4, 75), (0, t), (0, v10)]) hE dX0_leastRest_17 rfl rfl (by decide) rfl ?_
        refine dk_iload_n (pc' := 19) hE dX0_leastRest_18 rfl rfl rfl ?_
        refine dk_aload_n (pc' := 20) hE dX0_leastRest_19 rfl rfl rfl ?_
        refine gf_0_4 (pc' := 23) hE fl_X0_40 dX0_leastRest_20 is_75 rfl (fun v11 hv11 htv11 hbv11 => ?_)
        refine dk_icmp_ge (tgt := 41) (pc' := 26) hE dX0_leastRest_23 (by decide) rfl (fun hc12 => ?_) (fun hc12 => ?_)
        · skip
          refine dk_aload_n (pc' := 42) hE dX0_leastRest_41 rfl rfl rfl ?_
          refine gf_0_1 (pc' := 45) (w := 85) hE fl_X0_20 dX0_leastRest_42 is_75 rfl rfl ?_
          refine dk_iload_n (pc' := 46) hE dX0_leastRest_45 rfl rfl rfl ?_
          refine dk_lconst (pc' := 47) hE dX0_leastRest_46 (w := 0) rfl rfl ?_
          refine pa_50 (pc' := 48) hE dX0_leastRest_47 is_85 (by omega) trivial rfl (fun σ13 eσ13 => ?_)
          obtain ⟨v14, hv14⟩ : ∃ z : Int, z = t + (-1) := ⟨_, rfl⟩
          refine dk_iinc (pc' := 51) (ls' := [(4, 75), (0, v14), (0, v10)]) hE dX0_leastRest_48 rfl hv14.symm (by omega) rfl (by decide) rfl ?_
          refine dk_goto (tgt := 9) hE dX0_leastRest_51 (by decide) ?_
          refine dk_drop (ls' := [(4, 75), (0, v14), (9, 0)]) [true, true, false] rfl ?_
          exact ih9 v14 σ13 (by omega) (fun k_ j_ h_ => by rw [eσ13, dk_up_n (show ¬ (k_ = 85 ∧ j_ = t) from fun q_ => h_ (q_.1)), hF9 k_ j_ (fun w_ => h_ (w_))]) (by omega)
        · skip
          refine dk_aload_n (pc' := 27) hE dX0_leastRest_26 rfl rfl rfl ?_
          refine gf_0_1 (pc' := 30) (w := 85) hE fl_X0_20 dX0_leastRest_27 is_75 rfl rfl ?_
          refine dk_iload_n (pc' := 31) hE dX0_leastRest_30 rfl rfl rfl ?_
          refine dk_aload_n (pc' := 32) hE dX0_leastRest_31 rfl rfl rfl ?_
          refine dk_iload_n (pc' := 33) hE dX0_leastRest_32 rfl rfl rfl ?_
          refine dk_iload_n (pc' := 34) hE dX0_leastRest_33 rfl rfl rfl ?_
          refine dk_cV (pc' := 37) (as := [(0, v10), (0, t)]) hE lk_X0_87 (ct_X0_leastFrom l G hGd v10 t) dX0_leastRest_34 rfl is_75 rfl (by decide) (Nat.le_of_ble_eq_true rfl) ⟨rfl, (by omega), (by omega)⟩ rfl (fun r16 σ15 hr16 hor16 => ?_)
          obtain ⟨v17, rfl, hfσ15, hpr16⟩ := hr16
          have hsσ15 : σ9c = σ15 := (funext (fun k => funext (fun j => hfσ15 k j not_false))).symm
          subst hsσ15
          refine pa_50 (pc' := 38) hE dX0_leastRest_37 is_85 (by omega) trivial rfl (fun σ18 eσ18 => ?_)
          refine dk_goto (tgt := 48) hE dX0_leastRest_38 (by decide) ?_
          obtain ⟨v19, hv19⟩ : ∃ z : Int, z = t + (-1) := ⟨_, rfl⟩
          refine dk_iinc (pc' := 51) (ls' := [(4, 75), (0, v19), (0, v10)]) hE dX0_leastRest_48 rfl hv19.symm (by omega) rfl (by decide) rfl ?_
          refine dk_goto (tgt := 9) hE dX0_leastRest_51 (by decide) ?_
          refine dk_drop (ls' := [(4, 75), (0, v19), (9, 0)]) [true, true, false] rfl ?_
          exact ih9 v19 σ18 (by omega) (fun k_ j_ h_ => by rw [eσ18, dk_up_n (show ¬ (k_ = 85 ∧ j_ = t) from fun q_ => h_ (q_.1)), hF9 k_ j_ (fun w_ => h_ (w_))]) (by omega)
  exact lp9 _ v3 σ (Nat.lt_succ_self _) (fun k_ j_ h_ => rfl) (by omega)
set_option maxHeartbeats 4000000 in
set_option maxRecDepth 20000 in
theorem ct_X0_firstOfLeast (l : Launch) (G : dkG) (hGd : dk_Gd G) (a t : Int) : dk_Ct l G dk_Ty yX0_firstOfLeast cX0_firstOfLeast 5 (some .int) 2 190 190 (fun av σ => av = [(4, 75), (0, a), (0, t)] ∧ (0 ≤ a ∧ a < 8) ∧ (0 ≤ t ∧ t ≤ 1023)) (fun _ σ r_ σ' => ∃ z : Int, r_ = some (0, z) ∧ (∀ k_ j_ : Int, ¬ (False) → σ' k_ j_ = σ k_ j_) ∧ (0 ≤ z ∧ z ≤ 9)) := by
  refine dk_enter hGd (by decide) (fun av σ hpre hok => ?_)
  obtain ⟨rfl, ha, ht⟩ := hpre
  refine ⟨Nat.le_of_ble_eq_true rfl, fun E hE hR _ => ?_⟩
  have hi_a : dk_i32 a := dk_oki (hok _ (by simp))
  have hi_t : dk_i32 t := dk_oki (hok _ (by simp))
  show dk_PJ E 0 [(4, 75), (0, a), (0, t), (9, 0), (9, 0)] [] 190 σ
  refine dk_iconst (pc' := 1) hE dX0_firstOfLeast_0 (by decide) rfl ?_
  refine dk_istore_n (pc' := 2) (ls' := [(4, 75), (0, a), (0, t), (0, 0), (9, 0)]) hE dX0_firstOfLeast_1 rfl rfl (by decide) rfl ?_
  have lp2 : ∀ (N_ : Nat) (b : Int) (σ2c : dkS), (2147483648 - b).toNat < N_ → ((∀ k_ j_ : Int, ¬ (False) → σ2c k_ j_ = σ k_ j_)) → (0 ≤ b) → dk_PJ E 2 [(4, 75), (0, a), (0, t), (0, b), (9, 0)] [] 190 σ2c := by
    intro N2
    induction N2 with
    | zero => intro b σ2c hm; exact absurd hm (Nat.not_lt_zero _)
    | succ N2 ih2 =>
      intro b σ2c hm2 hF2 hb0
      refine dk_iload_n (pc' := 3) hE dX0_firstOfLeast_2 rfl rfl rfl ?_
      refine dk_aload_n (pc' := 4) hE dX0_firstOfLeast_3 rfl rfl rfl ?_
      refine gf_0_5 (pc' := 7) hE fl_X0_47 dX0_firstOfLeast_4 is_75 rfl (fun v1 hv1 htv1 hbv1 => ?_)
      refine dk_icmp_ge (tgt := 80) (pc' := 10) hE dX0_firstOfLeast_7 (by decide) rfl (fun hc2 => ?_) (fun hc2 => ?_)
      · skip
        refine dk_iconst (pc' := 81) hE dX0_firstOfLeast_80 (by decide) rfl ?_
        exact dk_iret (st := []) hE hR dX0_firstOfLeast_81 ⟨_, rfl, (fun k_ j_ h_ => by rw [hF2 k_ j_ not_false]), by omega⟩
      · skip
        refine dk_iload_n (pc' := 11) hE dX0_firstOfLeast_10 rfl rfl rfl ?_
        refine dk_iconst (pc' := 12) hE dX0_firstOfLeast_11 (by decide) rfl ?_
        refine dk_iload_n (pc' := 13) hE dX0_firstOfLeast_12 rfl rfl rfl ?_
        refine dk_ishl (pc' := 14) hE dX0_firstOfLeast_13 rfl (fun v3 hv3 ev3 => ?_)
        have hxv3 := dk_shl1 (b := b) (by omega) ev3
        refine dk_ior (pc' := 15) hE dX0_firstOfLeast_14 rfl (fun v4 hv4 ev4 => ?_)
        have hxv4 := dk_or1024 (x := t) (y := v3) (by omega) (by omega) ev4
        refine dk_istore (pc' := 17) (ls' := [(4, 75), (0, a), (0, t), (0, b), (0, v4)]) hE dX0_firstOfLeast_15 rfl (by decide) rfl ?_
        refine dk_iload (pc' := 19) hE dX0_firstOfLeast_17 rfl rfl ?_
        refine dk_iload_n (pc' := 20) hE dX0_firstOfLeast_19 rfl rfl rfl ?_
        refine dk_icmp_eq (tgt := 74) (pc' := 23) hE dX0_firstOfLeast_20 (by decide) rfl (fun hc5 => ?_) (fun hc5 => ?_)
        · skip
          obtain ⟨v6, hv6⟩ : ∃ z : Int, z = b + 1 := ⟨_, rfl⟩
          refine dk_iinc (pc' := 77) (ls' := [(4, 75), (0, a), (0, t), (0, v6), (0, v4)]) hE dX0_firstOfLeast_74 rfl hv6.symm (by omega) rfl (by decide) rfl ?_
          refine dk_goto (tgt := 2) hE dX0_firstOfLeast_77 (by decide) ?_
          refine dk_drop (ls' := [(4, 75), (0, a), (0, t), (0, v6), (9, 0)]) [true, true, true, true, false] rfl ?_
          exact ih2 v6 σ2c (by omega) (fun k_ j_ h_ => by rw [hF2 k_ j_ not_false]) (by omega)
        · skip
          refine dk_aload_n (pc' := 24) hE dX0_firstOfLeast_23 rfl rfl rfl ?_
          refine dk_iload_n (pc' := 25) hE dX0_firstOfLeast_24 rfl rfl rfl ?_
          refine dk_iload_n (pc' := 26) hE dX0_firstOfLeast_25 rfl rfl rfl ?_
          refine dk_cV (pc' := 29) (as := [(0, a), (0, b)]) hE lk_X0_100 (ct_X0_isWilling l G hGd a b) dX0_firstOfLeast_26 rfl is_75 rfl (by decide) (Nat.le_of_ble_eq_true rfl) ⟨rfl, (by omega), (by omega)⟩ rfl (fun r8 σ7 hr8 hor8 => ?_)
          obtain ⟨v9, rfl, hfσ7, hpr8⟩ := hr8
          have hsσ7 : σ2c = σ7 := (funext (fun k => funext (fun j => hfσ7 k j not_false))).symm
          subst hsσ7
          refine dk_if_eq (tgt := 74) (pc' := 32) hE dX0_firstOfLeast_29 (by decide) rfl (fun hc10 => ?_) (fun hc10 => ?_)
          · skip
            obtain ⟨v11, hv11⟩ : ∃ z : Int, z = b + 1 := ⟨_, rfl⟩
            refine dk_iinc (pc' := 77) (ls' := [(4, 75), (0, a), (0, t), (0, v11), (0, v4)]) hE dX0_firstOfLeast_74 rfl hv11.symm (by omega) rfl (by decide) rfl ?_
            refine dk_goto (tgt := 2) hE dX0_firstOfLeast_77 (by decide) ?_
            refine dk_drop (ls' := [(4, 75), (0, a), (0, t), (0, v11), (9, 0)]) [true, true, true, true, false] rfl ?_
            exact ih2 v11 σ2c (by omega) (fun k_ j_ h_ => by rw [hF2 k_ j_ not_false]) (by omega)
          · skip
            refine dk_aload_n (pc' := 33) hE dX0_firstOfLeast_32 rfl rfl rfl ?_
            refine gf_0_1 (pc' := 36) (w := 85) hE fl_X0_20 dX0_firstOfLeast_33 is_75 rfl rfl ?_
            refine dk_iload (pc' := 38) hE dX0_firstOfLeast_36 rfl rfl ?_
            refine ga_50 (pc' := 39) hE dX0_firstOfLeast_38 is_85 (by omega) rfl (fun v12 hv12 htv12 hbv12 => ?_)
            refine dk_ldc2 (pc' := 42) hE dX0_firstOfLeast_39 cs_X0_59 (by decide) rfl ?_
            refine dk_lcmp (pc' := 43) hE dX0_firstOfLeast_42 rfl (fun v13 hv13 => ?_)
            refine dk_if_eq (tgt := 74) (pc' := 46) hE dX0_firstOfLeast_43 (by decide) rfl (fun hc14 => ?_) (fun hc14 => ?_)
            · skip
              obtain ⟨v15, hv15⟩ : ∃ z : Int, z = b + 1 := ⟨_, rfl⟩
              refine dk_iinc (pc' := 77) (ls' := [(4, 75), (0, a), (0, t), (0, v15), (0, v4)]) hE dX0_firstOfLeast_74 rfl hv15.symm (by omega) rfl (by decide) rfl ?_
              refine dk_goto (tgt := 2) hE dX0_firstOfLeast_77 (by decide) ?_
              refine dk_drop (ls' := [(4, 75), (0, a), (0, t), (0, v15), (9, 0)]) [true, true, true, true, false] rfl ?_
              exact ih2 v15 σ2c (by omega) (fun k_ j_ h_ => by rw [hF2 k_ j_ not_false]) (by omega)
            · skip
              refine dk_aload_n (pc' := 47) hE dX0_firstOfLeast_46 rfl rfl rfl ?_
              refine gf_0_0 (pc' := 50) (w := 76) hE fl_X0_15 dX0_firstOfLeast_47 is_75 rfl rfl ?_
              refine dk_iload_n (pc' := 51) hE dX0_firstOfLeast_50 rfl rfl rfl ?_
              refine ga_48 (pc' := 52) (w := (77 + a)) hE dX0_firstOfLeast_51 is_76 (by omega) (by omega) rfl ?_
              refine dk_iload_n (pc' := 53) hE dX0_firstOfLeast_52 rfl rfl rfl ?_
              refine ga_49 (pc' := 54) hE dX0_firstOfLeast_53 (rw_weights (by omega)) (by omega) rfl (fun v16 hv16 htv16 hbv16 => ?_)
              refine dk_aload_n (pc' := 55) hE dX0_firstOfLeast_54 rfl rfl rfl ?_
              refine gf_0_1 (pc' := 58) (w := 85) hE fl_X0_20 dX0_firstOfLeast_55 is_75 rfl rfl ?_
              refine dk_iload (pc' := 60) hE dX0_firstOfLeast_58 rfl rfl ?_
              refine ga_50 (pc' := 61) hE dX0_firstOfLeast_60 is_85 (by omega) rfl (fun v17 hv17 htv17 hbv17 => ?_)
              have hq17 : v12 = v17 := (show v17 = v12 by rw [hv17, hv12]).symm
              subst hq17
              clear htv17 hbv17
              refine dk_ladd (pc' := 62) hE dX0_firstOfLeast_61 rfl (fun v18 hv18 _ => ?_)
              refine dk_aload_n (pc' := 63) hE dX0_firstOfLeast_62 rfl rfl rfl ?_
              refine gf_0_1 (pc' := 66) (w := 85) hE fl_X0_20 dX0_firstOfLeast_63 is_75 rfl rfl ?_
              refine dk_iload_n (pc' := 67) hE dX0_firstOfLeast_66 rfl rfl rfl ?_
              refine ga_50 (pc' := 68) hE dX0_firstOfLeast_67 is_85 (by omega) rfl (fun v19 hv19 htv19 hbv19 => ?_)
              refine dk_lcmp (pc' := 69) hE dX0_firstOfLeast_68 rfl (fun v20 hv20 => ?_)
              refine dk_if_ne (tgt := 74) (pc' := 72) hE dX0_firstOfLeast_69 (by decide) rfl (fun hc21 => ?_) (fun hc21 => ?_)
              · skip
                obtain ⟨v22, hv22⟩ : ∃ z : Int, z = b + 1 := ⟨_, rfl⟩
                refine dk_iinc (pc' := 77) (ls' := [(4, 75), (0, a), (0, t), (0, v22), (0, v4)]) hE dX0_firstOfLeast_74 rfl hv22.symm (by omega) rfl (by decide) rfl ?_
                refine dk_goto (tgt := 2) hE dX0_firstOfLeast_77 (by decide) ?_
                refine dk_drop (ls' := [(4, 75), (0, a), (0, t), (0, v22), (9, 0)]) [true, true, true, true, false] rfl ?_
                exact ih2 v22 σ2c (by omega) (fun k_ j_ h_ => by rw [hF2 k_ j_ not_false]) (by omega)
              · skip
                refine dk_iload_n (pc' := 73) hE dX0_firstOfLeast_72 rfl rfl rfl ?_
                exact dk_iret (st := []) hE hR dX0_firstOfLeast_73 ⟨_, rfl, (fun k_ j_ h_ => by rw [hF2 k_ j_ not_false]), by omega⟩
  exact lp2 _ 0 σ (Nat.lt_succ_self _) (fun k_ j_ h_ => rfl) (by omega)
set_option maxHeartbeats 4000000 in
set_option maxRecDepth 20000 in
theorem ct_X0_pickFirst (l : Launch) (G : dkG) (hGd : dk_Gd G) : dk_Ct l G dk_Ty yX0_pickFirst cX0_pickFirst 3 (none) 3 190 190 (fun av σ => av = [(4, 75)]) (fun _ σ r_ σ' => r_ = none ∧ (∀ k_ j_ : Int, ¬ (k_ = 86) → σ' k_ j_ = σ k_ j_) ∧ (True)) := by
  refine dk_enter hGd (by decide) (fun av σ hpre hok => ?_)
  subst hpre
  refine ⟨Nat.le_of_ble_eq_true rfl, fun E hE hR _ => ?_⟩
  show dk_PJ E 0 [(4, 75), (9, 0), (9, 0)] [] 190 σ
  refine dk_iconst (pc' := 1) hE dX0_pickFirst_0 (by decide) rfl ?_
  refine dk_istore_n (pc' := 2) (ls' := [(4, 75), (0, 0), (9, 0)]) hE dX0_pickFirst_1 rfl rfl (by decide) rfl ?_
  refine dk_iconst (pc' := 3) hE dX0_pickFirst_2 (by decide) rfl ?_
  refine dk_istore_n (pc' := 4) (ls' := [(4, 75), (0, 0), (0, 0)]) hE dX0_pickFirst_3 rfl rfl (by decide) rfl ?_
  have lp4 : ∀ (N_ : Nat) (t i : Int) (σ4c : dkS), (2147483648 - i).toNat < N_ → ((∀ k_ j_ : Int, ¬ (k_ = 86) → σ4c k_ j_ = σ k_ j_)) → (0 ≤ i) → (0 ≤ t ∧ t ≤ 1023) → dk_PJ E 4 [(4, 75), (0, t), (0, i)] [] 190 σ4c := by
    intro N4
    induction N4 with
    | zero => intro t i σ4c hm; exact absurd hm (Nat.not_lt_zero _)
    | succ N4 ih4 =>
      intro t i σ4c hm4 hF4 hi0 ht
      refine dk_iload_n (pc' := 5) hE dX0_pickFirst_4 rfl rfl rfl ?_
      refine dk_aload_n (pc' := 6) hE dX0_pickFirst_5 rfl rfl rfl ?_
      refine gf_0_4 (pc' := 9) hE fl_X0_40 dX0_pickFirst_6 is_75 rfl (fun v1 hv1 htv1 hbv1 => ?_)
      refine dk_icmp_ge (tgt := 41) (pc' := 12) hE dX0_pickFirst_9 (by decide) rfl (fun hc2 => ?_) (fun hc2 => ?_)
      · skip
        exact dk_vret (st := []) hE hR dX0_pickFirst_41 ⟨rfl, (fun k_ j_ h_ => by rw [hF4 k_ j_ (fun w_ => h_ (w_))]), trivial⟩
      · skip
        refine dk_aload_n (pc' := 13) hE dX0_pickFirst_12 rfl rfl rfl ?_
        refine gf_0_2 (pc' := 16) (w := 86) hE fl_X0_24 dX0_pickFirst_13 is_75 rfl rfl ?_
        refine dk_iload_n (pc' := 17) hE dX0_pickFirst_16 rfl rfl rfl ?_
        refine dk_aload_n (pc' := 18) hE dX0_pickFirst_17 rfl rfl rfl ?_
        refine dk_iload_n (pc' := 19) hE dX0_pickFirst_18 rfl rfl rfl ?_
        refine dk_iload_n (pc' := 20) hE dX0_pickFirst_19 rfl rfl rfl ?_
        refine dk_cV (pc' := 23) (as := [(0, i), (0, t)]) hE lk_X0_97 (ct_X0_firstOfLeast l G hGd i t) dX0_pickFirst_20 rfl is_75 rfl (by decide) (Nat.le_of_ble_eq_true rfl) ⟨rfl, (by omega), (by omega)⟩ rfl (fun r4 σ3 hr4 hor4 => ?_)
        obtain ⟨v5, rfl, hfσ3, hpr4⟩ := hr4
        have hsσ3 : σ4c = σ3 := (funext (fun k => funext (fun j => hfσ3 k j not_false))).symm
        subst hsσ3
        refine pa_51 (pc' := 24) hE dX0_pickFirst_23 is_86 (by omega) (by omega) rfl (fun σ6 eσ6 => ?_)
        refine dk_iload_n (pc' := 25) hE dX0_pickFirst_24 rfl rfl rfl ?_
        refine dk_iconst (pc' := 26) hE dX0_pickFirst_25 (by decide) rfl ?_
        refine dk_aload_n (pc' := 27) hE dX0_pickFirst_26 rfl rfl rfl ?_
        refine gf_0_2 (pc' := 30) (w := 86) hE fl_X0_24 dX0_pickFirst_27 is_75 rfl rfl ?_
        refine dk_iload_n (pc' := 31) hE dX0_pickFirst_30 rfl rfl rfl ?_
        refine ga_51 (pc' := 32) hE dX0_pickFirst_31 is_86 (by omega) rfl (fun v7 hv7 htv7 hbv7 => ?_)
        have hq7 : v5 = v7 := (show v7 = v5 by rw [hv7, eσ6, dk_up_s]).symm
        subst hq7
        clear htv7 hbv7
        refine dk_ishl (pc' := 33) hE dX0_pickFirst_32 rfl (fun v8 hv8 ev8 => ?_)
        have hxv8 := dk_shl1 (b := v5) (by omega) ev8
        refine dk_ior (pc' := 34) hE dX0_pickFirst_33 rfl (fun v9 hv9 ev9 => ?_)
        have hxv9 := dk_or1024 (x := t) (y := v8) (by omega) (by omega) ev9
        refine dk_istore_n (pc' := 35) (ls' := [(4, 75), (0, v9), (0, i)]) hE dX0_pickFirst_34 rfl rfl (by decide) rfl ?_
        obtain ⟨v10, hv10⟩ : ∃ z : Int, z = i + 1 := ⟨_, rfl⟩
        refine dk_iinc (pc' := 38) (ls' := [(4, 75), (0, v9), (0, v10)]) hE dX0_pickFirst_35 rfl hv10.symm (by omega) rfl (by decide) rfl ?_
        refine dk_goto (tgt := 4) hE dX0_pickFirst_38 (by decide) ?_
        exact ih4 v9 v10 σ6 (by omega) (fun k_ j_ h_ => by rw [eσ6, dk_up_n (show ¬ (k_ = 86 ∧ j_ = i) from fun q_ => h_ (q_.1)), hF4 k_ j_ (fun w_ => h_ (w_))]) (by omega) (by omega)
  exact lp4 _ 0 0 σ (Nat.lt_succ_self _) (fun k_ j_ h_ => rfl) (by omega) (by omega)
set_option maxHeartbeats 4000000 in
set_option maxRecDepth 20000 in
theorem ct_X0_choose (l : Launch) (G : dkG) (hGd : dk_Gd G) : dk_Ct l G dk_Ty yX0_choose cX0_choose 1 (some .boolean) 4 190 190 (fun av σ => av = [(4, 75)]) (fun _ σ r_ σ' => ∃ z : Int, r_ = some (0, z) ∧ (∀ k_ j_ : Int, ¬ ((k_ = 75 ∧ j_ = 6) ∨ (k_ = 75 ∧ j_ = 7) ∨ k_ = 85 ∨ k_ = 86) → σ' k_ j_ = σ k_ j_) ∧ (0 ≤ z ∧ z ≤ 1)) := by
  refine dk_enter hGd (by decide) (fun av σ hpre hok => ?_)
  subst hpre
  refine ⟨Nat.le_of_ble_eq_true rfl, fun E hE hR _ => ?_⟩
  show dk_PJ E 0 [(4, 75)] [] 190 σ
  refine dk_aload_n (pc' := 1) hE dX0_choose_0 rfl rfl rfl ?_
  refine dk_aload_n (pc' := 2) hE dX0_choose_1 rfl rfl rfl ?_
  refine gf_0_4 (pc' := 5) hE fl_X0_40 dX0_choose_2 is_75 rfl (fun v1 hv1 htv1 hbv1 => ?_)
  refine dk_aload_n (pc' := 6) hE dX0_choose_5 rfl rfl rfl ?_
  refine gf_0_5 (pc' := 9) hE fl_X0_47 dX0_choose_6 is_75 rfl (fun v2 hv2 htv2 hbv2 => ?_)
  refine dk_icmp_gt (tgt := 23) (pc' := 12) hE dX0_choose_9 (by decide) rfl (fun hc3 => ?_) (fun hc3 => ?_)
  · skip
    refine dk_iconst (pc' := 24) hE dX0_choose_23 (by decide) rfl ?_
    refine pf_0_6 (pc' := 27) hE fl_X0_65 dX0_choose_24 is_75 (by omega) trivial rfl (fun σ4 eσ4 => ?_)
    refine dk_aload_n (pc' := 28) hE dX0_choose_27 rfl rfl rfl ?_
    refine gf_0_6 (pc' := 31) hE fl_X0_65 dX0_choose_28 is_75 rfl (fun v5 hv5 htv5 hbv5 => ?_)
    have hq5 : 0 = v5 := (show v5 = 0 by rw [hv5, eσ4, dk_up_s]).symm
    subst hq5
    clear htv5 hbv5
    refine dk_if_eq (tgt := 48) (pc' := 34) hE dX0_choose_31 (by decide) rfl (fun hc6 => ?_) (fun hc6 => absurd hc6 (by decide))
    refine dk_aload_n (pc' := 49) hE dX0_choose_48 rfl rfl rfl ?_
    refine gf_0_6 (pc' := 52) hE fl_X0_65 dX0_choose_49 is_75 rfl (fun v7 hv7 htv7 hbv7 => ?_)
    have hq7 : 0 = v7 := (show v7 = 0 by rw [hv7, hv5]).symm
    subst hq7
    clear htv7 hbv7
    exact dk_zret (st := []) hE hR dX0_choose_52 (by omega) ⟨_, rfl, (fun k_ j_ h_ => by rw [eσ4, dk_up_n (show ¬ (k_ = 75 ∧ j_ = 6) from fun q_ => h_ (Or.inl (q_)))]), by omega⟩
  · skip
    refine dk_aload_n (pc' := 13) hE dX0_choose_12 rfl rfl rfl ?_
    refine dk_cV (pc' := 16) (as := []) hE lk_X0_61 (ct_X0_leastRest l G hGd) dX0_choose_13 rfl is_75 rfl (by decide) (Nat.le_of_ble_eq_true rfl) rfl rfl (fun r9 σ8 hr9 hor9 => ?_)
    obtain ⟨v10, rfl, hfσ8, hpr9⟩ := hr9
    refine dk_if_eq (tgt := 23) (pc' := 19) hE dX0_choose_16 (by decide) rfl (fun hc11 => ?_) (fun hc11 => ?_)
    · skip
      refine dk_iconst (pc' := 24) hE dX0_choose_23 (by decide) rfl ?_
      refine pf_0_6 (pc' := 27) hE fl_X0_65 dX0_choose_24 is_75 (by omega) trivial rfl (fun σ12 eσ12 => ?_)
      refine dk_aload_n (pc' := 28) hE dX0_choose_27 rfl rfl rfl ?_
      refine gf_0_6 (pc' := 31) hE fl_X0_65 dX0_choose_28 is_75 rfl (fun v13 hv13 htv13 hbv13 => ?_)
      have hq13 : 0 = v13 := (show v13 = 0 by rw [hv13, eσ12, dk_up_s]).symm
      subst hq13
      clear htv13 hbv13
      refine dk_if_eq (tgt := 48) (pc' := 34) hE dX0_choose_31 (by decide) rfl (fun hc14 => ?_) (fun hc14 => absurd hc14 (by decide))
      refine dk_aload_n (pc' := 49) hE dX0_choose_48 rfl rfl rfl ?_
      refine gf_0_6 (pc' := 52) hE fl_X0_65 dX0_choose_49 is_75 rfl (fun v15 hv15 htv15 hbv15 => ?_)
      have hq15 : 0 = v15 := (show v15 = 0 by rw [hv15, hv13]).symm
      subst hq15
      clear htv15 hbv15
      exact dk_zret (st := []) hE hR dX0_choose_52 (by omega) ⟨_, rfl, (fun k_ j_ h_ => by rw [eσ12, dk_up_n (show ¬ (k_ = 75 ∧ j_ = 6) from fun q_ => h_ (Or.inl (q_))), hfσ8 k_ j_ (fun w_ => h_ (Or.inr (Or.inr (Or.inl (w_)))))]), by omega⟩
    · skip
      refine dk_iconst (pc' := 20) hE dX0_choose_19 (by decide) rfl ?_
      refine dk_goto (tgt := 24) hE dX0_choose_20 (by decide) ?_
      refine pf_0_6 (pc' := 27) hE fl_X0_65 dX0_choose_24 is_75 (by omega) trivial rfl (fun σ16 eσ16 => ?_)
      refine dk_aload_n (pc' := 28) hE dX0_choose_27 rfl rfl rfl ?_
      refine gf_0_6 (pc' := 31) hE fl_X0_65 dX0_choose_28 is_75 rfl (fun v17 hv17 htv17 hbv17 => ?_)
      have hq17 : 1 = v17 := (show v17 = 1 by rw [hv17, eσ16, dk_up_s]).symm
      subst hq17
      clear htv17 hbv17
      refine dk_if_eq (tgt := 48) (pc' := 34) hE dX0_choose_31 (by decide) rfl (fun hc18 => absurd hc18 (by decide)) (fun hc18 => ?_)
      refine dk_aload_n (pc' := 35) hE dX0_choose_34 rfl rfl rfl ?_
      refine dk_aload_n (pc' := 36) hE dX0_choose_35 rfl rfl rfl ?_
      refine gf_0_1 (pc' := 39) (w := 85) hE fl_X0_20 dX0_choose_36 is_75 rfl rfl ?_
      refine dk_iconst (pc' := 40) hE dX0_choose_39 (by decide) rfl ?_
      refine ga_50 (pc' := 41) hE dX0_choose_40 is_85 (by omega) rfl (fun v19 hv19 htv19 hbv19 => ?_)
      refine pf_0_7 (pc' := 44) hE fl_X0_69 dX0_choose_41 is_75 trivial rfl (fun σ20 eσ20 => ?_)
      refine dk_aload_n (pc' := 45) hE dX0_choose_44 rfl rfl rfl ?_
      refine dk_cV (pc' := 48) (as := []) hE lk_X0_73 (ct_X0_pickFirst l G hGd) dX0_choose_45 rfl is_75 rfl (by decide) (Nat.le_of_ble_eq_true rfl) rfl rfl (fun r22 σ21 hr22 hor22 => ?_)
      obtain ⟨rfl, hfσ21, hpr22⟩ := hr22
      refine dk_aload_n (pc' := 49) hE dX0_choose_48 rfl rfl rfl ?_
      refine gf_0_6 (pc' := 52) hE fl_X0_65 dX0_choose_49 is_75 rfl (fun v23 hv23 htv23 hbv23 => ?_)
      have hq23 : 1 = v23 := (show v23 = 1 by rw [hv23, hfσ21 75 6 (by omega), eσ20, dk_up_n (show ¬ (75 = 75 ∧ 6 = 7) by omega), hv17]).symm
      subst hq23
      clear htv23 hbv23
      exact dk_zret (st := []) hE hR dX0_choose_52 (by omega) ⟨_, rfl, (fun k_ j_ h_ => by rw [hfσ21 k_ j_ (fun w_ => h_ (Or.inr (Or.inr (Or.inr (w_))))), eσ20, dk_up_n (show ¬ (k_ = 75 ∧ j_ = 7) from fun q_ => h_ (Or.inr (Or.inl (q_)))), eσ16, dk_up_n (show ¬ (k_ = 75 ∧ j_ = 6) from fun q_ => h_ (Or.inl (q_))), hfσ8 k_ j_ (fun w_ => h_ (Or.inr (Or.inr (Or.inl (w_)))))]), by omega⟩
set_option maxHeartbeats 4000000 in
set_option maxRecDepth 20000 in
theorem ct_X0_chooseWithout (l : Launch) (G : dkG) (hGd : dk_Gd G) (f : Int) : dk_Ct l G dk_Ty yX0_chooseWithout cX0_chooseWithout 4 (some .boolean) 5 190 190 (fun av σ => av = [(4, 75), (0, f)] ∧ (0 ≤ f ∧ f < 10)) (fun _ σ r_ σ' => ∃ z : Int, r_ = some (0, z) ∧ (∀ k_ j_ : Int, ¬ ((k_ = 75 ∧ j_ = 6) ∨ (k_ = 75 ∧ j_ = 7) ∨ k_ = 85 ∨ k_ = 86 ∨ (77 ≤ k_ ∧ k_ ≤ 84) ∨ k_ = 87) → σ' k_ j_ = σ k_ j_) ∧ (0 ≤ z ∧ z ≤ 1)) := by
  refine dk_enter hGd (by decide) (fun av σ hpre hok => ?_)
  obtain ⟨rfl, hf⟩ := hpre
  refine ⟨Nat.le_of_ble_eq_true rfl, fun E hE hR _ => ?_⟩
  have hi_f : dk_i32 f := dk_oki (hok _ (by simp))
  show dk_PJ E 0 [(4, 75), (0, f), (9, 0), (9, 0)] [] 190 σ
  refine dk_iconst (pc' := 1) hE dX0_chooseWithout_0 (by decide) rfl ?_
  refine dk_istore_n (pc' := 2) (ls' := [(4, 75), (0, f), (0, 0), (9, 0)]) hE dX0_chooseWithout_1 rfl rfl (by decide) rfl ?_
  have lp2 : ∀ (N_ : Nat) (i : Int) (σ2c : dkS), (2147483648 - i).toNat < N_ → ((∀ k_ j_ : Int, ¬ ((77 ≤ k_ ∧ k_ ≤ 84) ∨ k_ = 87) → σ2c k_ j_ = σ k_ j_)) → (0 ≤ i) → dk_PJ E 2 [(4, 75), (0, f), (0, i), (9, 0)] [] 190 σ2c := by
    intro N2
    induction N2 with
    | zero => intro i σ2c hm; exact absurd hm (Nat.not_lt_zero _)
    | succ N2 ih2 =>
      intro i σ2c hm2 hF2 hi0
      refine dk_iload_n (pc' := 3) hE dX0_chooseWithout_2 rfl rfl rfl ?_
      refine dk_aload_n (pc' := 4) hE dX0_chooseWithout_3 rfl rfl rfl ?_
      refine gf_0_4 (pc' := 7) hE fl_X0_40 dX0_chooseWithout_4 is_75 rfl (fun v1 hv1 htv1 hbv1 => ?_)
      refine dk_icmp_ge (tgt := 94) (pc' := 10) hE dX0_chooseWithout_7 (by decide) rfl (fun hc2 => ?_) (fun hc2 => ?_)
      · skip
        refine dk_aload_n (pc' := 95) hE dX0_chooseWithout_94 rfl rfl rfl ?_
        refine dk_cV (pc' := 98) (as := []) hE lk_X0_78 (ct_X0_choose l G hGd) dX0_chooseWithout_95 rfl is_75 rfl (by decide) (Nat.le_of_ble_eq_true rfl) rfl rfl (fun r4 σ3 hr4 hor4 => ?_)
        obtain ⟨v5, rfl, hfσ3, hpr4⟩ := hr4
        exact dk_zret (st := []) hE hR dX0_chooseWithout_98 (by omega) ⟨_, rfl, (fun k_ j_ h_ => by rw [hfσ3 k_ j_ (fun w_ => h_ (w_.elim (fun x0_ => Or.inl (x0_)) (fun y0_ => y0_.elim (fun x1_ => Or.inr (Or.inl (x1_))) (fun y1_ => y1_.elim (fun x2_ => Or.inr (Or.inr (Or.inl (x2_)))) (fun y2_ => Or.inr (Or.inr (Or.inr (Or.inl (y2_))))))))), hF2 k_ j_ (fun w_ => h_ (w_.elim (fun x0_ => Or.inr (Or.inr (Or.inr (Or.inr (Or.inl (x0_)))))) (fun y0_ => Or.inr (Or.inr (Or.inr (Or.inr (Or.inr (y0_))))))))]), by omega⟩
      · skip
        refine dk_aload_n (pc' := 11) hE dX0_chooseWithout_10 rfl rfl rfl ?_
        refine gf_0_3 (pc' := 14) (w := 87) hE fl_X0_28 dX0_chooseWithout_11 is_75 rfl rfl ?_
        refine dk_iload_n (pc' := 15) hE dX0_chooseWithout_14 rfl rfl rfl ?_
        refine dk_aload_n (pc' := 16) hE dX0_chooseWithout_15 rfl rfl rfl ?_
        refine gf_0_2 (pc' := 19) (w := 86) hE fl_X0_24 dX0_chooseWithout_16 is_75 rfl rfl ?_
        refine dk_iload_n (pc' := 20) hE dX0_chooseWithout_19 rfl rfl rfl ?_
        refine ga_51 (pc' := 21) hE dX0_chooseWithout_20 is_86 (by omega) rfl (fun v6 hv6 htv6 hbv6 => ?_)
        refine pa_52 (pc' := 22) hE dX0_chooseWithout_21 is_87 (by omega) (by omega) rfl (fun σ7 eσ7 => ?_)
        refine dk_aload_n (pc' := 23) hE dX0_chooseWithout_22 rfl rfl rfl ?_
        refine gf_0_0 (pc' := 26) (w := 76) hE fl_X0_15 dX0_chooseWithout_23 is_75 rfl rfl ?_
        refine dk_iload_n (pc' := 27) hE dX0_chooseWithout_26 rfl rfl rfl ?_
        refine ga_48 (pc' := 28) (w := (77 + i)) hE dX0_chooseWithout_27 is_76 (by omega) (by omega) rfl ?_
        refine dk_iload_n (pc' := 29) hE dX0_chooseWithout_28 rfl rfl rfl ?_
        refine dk_ldc2 (pc' := 32) hE dX0_chooseWithout_29 cs_X0_59 (by decide) rfl ?_
        refine pa_49 (pc' := 33) hE dX0_chooseWithout_32 (rw_weights (by omega)) (by omega) trivial rfl (fun σ8 eσ8 => ?_)
        refine dk_iconst (pc' := 34) hE dX0_chooseWithout_33 (by decide) rfl ?_
        refine dk_istore_n (pc' := 35) (ls' := [(4, 75), (0, f), (0, i), (0, 0)]) hE dX0_chooseWithout_34 rfl rfl (by decide) rfl ?_
        have lp35 : ∀ (N_ : Nat) (b : Int) (σ35c : dkS), (2147483648 - b).toNat < N_ → ((∀ k_ j_ : Int, ¬ ((77 ≤ k_ ∧ k_ ≤ 84)) → σ35c k_ j_ = σ8 k_ j_)) → (0 ≤ b) → dk_PJ E 35 [(4, 75), (0, f), (0, i), (0, b)] [] 190 σ35c := by
          intro N35
          induction N35 with
          | zero => intro b σ35c hm; exact absurd hm (Nat.not_lt_zero _)
          | succ N35 ih35 =>
            intro b σ35c hm35 hF35 hb0
            refine dk_iload_n (pc' := 36) hE dX0_chooseWithout_35 rfl rfl rfl ?_
            refine dk_aload_n (pc' := 37) hE dX0_chooseWithout_36 rfl rfl rfl ?_
            refine gf_0_5 (pc' := 40) hE fl_X0_47 dX0_chooseWithout_37 is_75 rfl (fun v9 hv9 htv9 hbv9 => ?_)
            refine dk_icmp_ge (tgt := 88) (pc' := 43) hE dX0_chooseWithout_40 (by decide) rfl (fun hc10 => ?_) (fun hc10 => ?_)
            · skip
              obtain ⟨v11, hv11⟩ : ∃ z : Int, z = i + 1 := ⟨_, rfl⟩
              refine dk_iinc (pc' := 91) (ls' := [(4, 75), (0, f), (0, v11), (0, b)]) hE dX0_chooseWithout_88 rfl hv11.symm (by omega) rfl (by decide) rfl ?_
              refine dk_goto (tgt := 2) hE dX0_chooseWithout_91 (by decide) ?_
              refine dk_drop (ls' := [(4, 75), (0, f), (0, v11), (9, 0)]) [true, true, true, false] rfl ?_
              have hw12 : 77 ≤ (77 + i) ∧ (77 + i) ≤ 84 := by omega
              exact ih2 v11 σ35c (by omega) (fun k_ j_ h_ => by rw [hF35 k_ j_ (fun w_ => h_ (Or.inl (w_))), eσ8, dk_up_n (show ¬ (k_ = (77 + i) ∧ j_ = f) from fun q_ => h_ (Or.inl (dk_wr q_.1 hw12))), eσ7, dk_up_n (show ¬ (k_ = 87 ∧ j_ = i) from fun q_ => h_ (Or.inr (q_.1))), hF2 k_ j_ (fun w_ => h_ (w_.elim (fun x0_ => Or.inl (x0_)) (fun y0_ => Or.inr (y0_))))]) (by omega)
            · skip
              refine dk_iload_n (pc' := 44) hE dX0_chooseWithout_43 rfl rfl rfl ?_
              refine dk_aload_n (pc' := 45) hE dX0_chooseWithout_44 rfl rfl rfl ?_
              refine gf_0_3 (pc' := 48) (w := 87) hE fl_X0_28 dX0_chooseWithout_45 is_75 rfl rfl ?_
              refine dk_iload_n (pc' := 49) hE dX0_chooseWithout_48 rfl rfl rfl ?_
              refine ga_52 (pc' := 50) hE dX0_chooseWithout_49 is_87 (by omega) rfl (fun v13 hv13 htv13 hbv13 => ?_)
              have hq13 : v6 = v13 := (show v13 = v6 by rw [hv13, hF35 87 i (by omega), eσ8, dk_up_n (show ¬ (87 = (77 + i) ∧ i = f) by omega), eσ7, dk_up_s]).symm
              subst hq13
              clear htv13 hbv13
              refine dk_icmp_eq (tgt := 82) (pc' := 53) hE dX0_chooseWithout_50 (by decide) rfl (fun hc14 => ?_) (fun hc14 => ?_)
              · skip
                obtain ⟨v15, hv15⟩ : ∃ z : Int, z = b + 1 := ⟨_, rfl⟩
                refine dk_iinc (pc' := 85) (ls' := [(4, 75), (0, f), (0, i), (0, v15)]) hE dX0_chooseWithout_82 rfl hv15.symm (by omega) rfl (by decide) rfl ?_
                refine dk_goto (tgt := 35) hE dX0_chooseWithout_85 (by decide) ?_
                exact ih35 v15 σ35c (by omega) (fun k_ j_ h_ => by rw [hF35 k_ j_ (fun w_ => h_ (w_))]) (by omega)
              · skip
                refine dk_aload_n (pc' := 54) hE dX0_chooseWithout_53 rfl rfl rfl ?_
                refine gf_0_0 (pc' := 57) (w := 76) hE fl_X0_15 dX0_chooseWithout_54 is_75 rfl rfl ?_
                refine dk_iload_n (pc' := 58) hE dX0_chooseWithout_57 rfl rfl rfl ?_
                refine ga_48 (pc' := 59) (w := (77 + i)) hE dX0_chooseWithout_58 is_76 (by omega) (by omega) rfl ?_
                refine dk_iload_n (pc' := 60) hE dX0_chooseWithout_59 rfl rfl rfl ?_
                refine ga_49 (pc' := 61) hE dX0_chooseWithout_60 (rw_weights (by omega)) (by omega) rfl (fun v16 hv16 htv16 hbv16 => ?_)
                refine dk_ldc2 (pc' := 64) hE dX0_chooseWithout_61 cs_X0_59 (by decide) rfl ?_
                refine dk_lcmp (pc' := 65) hE dX0_chooseWithout_64 rfl (fun v17 hv17 => ?_)
                refine dk_if_eq (tgt := 82) (pc' := 68) hE dX0_chooseWithout_65 (by decide) rfl (fun hc18 => ?_) (fun hc18 => ?_)
                · skip
                  obtain ⟨v19, hv19⟩ : ∃ z : Int, z = b + 1 := ⟨_, rfl⟩
                  refine dk_iinc (pc' := 85) (ls' := [(4, 75), (0, f), (0, i), (0, v19)]) hE dX0_chooseWithout_82 rfl hv19.symm (by omega) rfl (by decide) rfl ?_
                  refine dk_goto (tgt := 35) hE dX0_chooseWithout_85 (by decide) ?_
                  exact ih35 v19 σ35c (by omega) (fun k_ j_ h_ => by rw [hF35 k_ j_ (fun w_ => h_ (w_))]) (by omega)
                · skip
                  refine dk_aload_n (pc' := 69) hE dX0_chooseWithout_68 rfl rfl rfl ?_
                  refine gf_0_0 (pc' := 72) (w := 76) hE fl_X0_15 dX0_chooseWithout_69 is_75 rfl rfl ?_
                  refine dk_iload_n (pc' := 73) hE dX0_chooseWithout_72 rfl rfl rfl ?_
                  refine ga_48 (pc' := 74) (w := (77 + i)) hE dX0_chooseWithout_73 is_76 (by omega) (by omega) rfl ?_
                  refine dk_iload_n (pc' := 75) hE dX0_chooseWithout_74 rfl rfl rfl ?_
                  refine dk_dup2 (pc' := 76) hE dX0_chooseWithout_75 (show (0 : Nat) ≠ 3 by decide) (show (4 : Nat) ≠ 3 by decide) rfl ?_
                  refine ga_49 (pc' := 77) hE dX0_chooseWithout_76 (rw_weights (by omega)) (by omega) rfl (fun v20 hv20 htv20 hbv20 => ?_)
                  have hq20 : v16 = v20 := (show v20 = v16 by rw [hv20, hv16]).symm
                  subst hq20
                  clear htv20 hbv20
                  refine dk_ldc2 (pc' := 80) hE dX0_chooseWithout_77 cs_X0_76 (by decide) rfl ?_
                  refine dk_ladd (pc' := 81) hE dX0_chooseWithout_80 rfl (fun v21 hv21 _ => ?_)
                  refine pa_49 (pc' := 82) hE dX0_chooseWithout_81 (rw_weights (by omega)) (by omega) trivial rfl (fun σ22 eσ22 => ?_)
                  obtain ⟨v23, hv23⟩ : ∃ z : Int, z = b + 1 := ⟨_, rfl⟩
                  refine dk_iinc (pc' := 85) (ls' := [(4, 75), (0, f), (0, i), (0, v23)]) hE dX0_chooseWithout_82 rfl hv23.symm (by omega) rfl (by decide) rfl ?_
                  refine dk_goto (tgt := 35) hE dX0_chooseWithout_85 (by decide) ?_
                  have hw24 : 77 ≤ (77 + i) ∧ (77 + i) ≤ 84 := by omega
                  exact ih35 v23 σ22 (by omega) (fun k_ j_ h_ => by rw [eσ22, dk_up_n (show ¬ (k_ = (77 + i) ∧ j_ = b) from fun q_ => h_ (dk_wr q_.1 hw24)), hF35 k_ j_ (fun w_ => h_ (w_))]) (by omega)
        exact lp35 _ 0 σ8 (Nat.lt_succ_self _) (fun k_ j_ h_ => rfl) (by omega)
  exact lp2 _ 0 σ (Nat.lt_succ_self _) (fun k_ j_ h_ => rfl) (by omega)
set_option maxHeartbeats 4000000 in
set_option maxRecDepth 20000 in
theorem ct_X0_weigh (l : Launch) (G : dkG) (hGd : dk_Gd G) (w s : Int) : dk_Ct l G dk_Ty yX0_weigh cX0_weigh 7 (none) 5 190 190 (fun av σ => av = [(4, 75), (4, 45), (0, w)] ∧ (GI σ) ∧ (dk_sc s) ∧ (s = σ 45 9) ∧ (0 ≤ w ∧ w < 4)) (fun _ σ r_ σ' => r_ = none ∧ (∀ k_ j_ : Int, ¬ ((k_ = 75 ∧ j_ = 4) ∨ (k_ = 75 ∧ j_ = 5) ∨ (77 ≤ k_ ∧ k_ ≤ 84) ∨ (72 ≤ k_ ∧ k_ ≤ 73)) → σ' k_ j_ = σ k_ j_) ∧ (True)) := by
  refine dk_enter hGd (by decide) (fun av σ hpre hok => ?_)
  obtain ⟨rfl, hG, hs, h9, hw⟩ := hpre
  refine ⟨Nat.le_of_ble_eq_true rfl, fun E hE hR _ => ?_⟩
  have hi_w : dk_i32 w := dk_oki (hok _ (by simp))
  show dk_PJ E 0 [(4, 75), (4, 45), (0, w), (9, 0), (9, 0), (9, 0), (9, 0)] [] 190 σ
  refine dk_aload_n (pc' := 1) hE dX0_weigh_0 rfl rfl rfl ?_
  refine dk_aload_n (pc' := 2) hE dX0_weigh_1 rfl rfl rfl ?_
  refine gf_6_9 (pc' := 5) hE fl_X0_31 dX0_weigh_2 is_45 rfl (fun v1 hv1 htv1 hbv1 => ?_)
  have hq1 : s = v1 := (show v1 = s by rw [hv1, h9]).symm
  subst hq1
  clear htv1 hbv1
  refine gf_4_10 (pc' := 8) (w := (s + 22)) hE fl_X0_37 dX0_weigh_5 (sc_is (by omega)) rfl rfl ?_
  refine dk_iload_n (pc' := 9) hE dX0_weigh_8 rfl rfl rfl ?_
  refine ga_69 (pc' := 10) hE dX0_weigh_9 (sc_22 hs) (by omega) rfl (fun v2 hv2 htv2 hbv2 => ?_)
  refine pf_0_4 (pc' := 13) hE fl_X0_40 dX0_weigh_10 is_75 (by omega) rfl (fun σ3 eσ3 => ?_)
  refine dk_aload_n (pc' := 14) hE dX0_weigh_13 rfl rfl rfl ?_
  refine dk_aload_n (pc' := 15) hE dX0_weigh_14 rfl rfl rfl ?_
  refine gf_6_11 (pc' := 18) hE fl_X0_44 dX0_weigh_15 is_45 rfl (fun v4 hv4 htv4 hbv4 => ?_)
  refine pf_0_5 (pc' := 21) hE fl_X0_47 dX0_weigh_18 is_75 (by omega) rfl (fun σ5 eσ5 => ?_)
  refine dk_iconst (pc' := 22) hE dX0_weigh_21 (by decide) rfl ?_
  refine dk_istore_n (pc' := 23) (ls' := [(4, 75), (4, 45), (0, w), (0, 0), (9, 0), (9, 0), (9, 0)]) hE dX0_weigh_22 rfl rfl (by decide) rfl ?_
  have lp23 : ∀ (N_ : Nat) (i : Int) (σ23c : dkS), (2147483648 - i).toNat < N_ → ((∀ k_ j_ : Int, ¬ ((77 ≤ k_ ∧ k_ ≤ 84) ∨ (72 ≤ k_ ∧ k_ ≤ 73)) → σ23c k_ j_ = σ5 k_ j_)) → (0 ≤ i) → dk_PJ E 23 [(4, 75), (4, 45), (0, w), (0, i), (9, 0), (9, 0), (9, 0)] [] 190 σ23c := by
    intro N23
    induction N23 with
    | zero => intro i σ23c hm; exact absurd hm (Nat.not_lt_zero _)
    | succ N23 ih23 =>
      intro i σ23c hm23 hF23 hi0
      refine dk_iload_n (pc' := 24) hE dX0_weigh_23 rfl rfl rfl ?_
      refine dk_aload_n (pc' := 25) hE dX0_weigh_24 rfl rfl rfl ?_
      refine gf_0_4 (pc' := 28) hE fl_X0_40 dX0_weigh_25 is_75 rfl (fun v6 hv6 htv6 hbv6 => ?_)
      have hq6 : v2 = v6 := (show v6 = v2 by rw [hv6, hF23 75 4 (by omega), eσ5, dk_up_n (show ¬ (75 = 75 ∧ 4 = 5) by omega), eσ3, dk_up_s]).symm
      subst hq6
      clear htv6 hbv6
      refine dk_icmp_ge (tgt := 107) (pc' := 31) hE dX0_weigh_28 (by decide) rfl (fun hc7 => ?_) (fun hc7 => ?_)
      · skip
        exact dk_vret (st := []) hE hR dX0_weigh_107 ⟨rfl, (fun k_ j_ h_ => by rw [hF23 k_ j_ (fun w_ => h_ (w_.elim (fun x0_ => Or.inr (Or.inr (Or.inl (x0_)))) (fun y0_ => Or.inr (Or.inr (Or.inr (y0_)))))), eσ5, dk_up_n (show ¬ (k_ = 75 ∧ j_ = 5) from fun q_ => h_ (Or.inr (Or.inl (q_)))), eσ3, dk_up_n (show ¬ (k_ = 75 ∧ j_ = 4) from fun q_ => h_ (Or.inl (q_)))]), trivial⟩
      · skip
        refine dk_aload_n (pc' := 32) hE dX0_weigh_31 rfl rfl rfl ?_
        refine gf_6_9 (pc' := 35) hE fl_X0_31 dX0_weigh_32 is_45 rfl (fun v8 hv8 htv8 hbv8 => ?_)
        have hq8 : s = v8 := (show v8 = s by rw [hv8, hF23 45 9 (by omega), eσ5, dk_up_n (show ¬ (45 = 75 ∧ 9 = 5) by omega), eσ3, dk_up_n (show ¬ (45 = 75 ∧ 9 = 4) by omega), hv1]).symm
        subst hq8
        clear htv8 hbv8
        refine gf_4_9 (pc' := 38) (w := (s + 21)) hE fl_X0_48 dX0_weigh_35 (sc_is (by omega)) rfl rfl ?_
        refine dk_iload_n (pc' := 39) hE dX0_weigh_38 rfl rfl rfl ?_
        refine ga_68 (pc' := 40) hE dX0_weigh_39 (sc_21 hs) (by omega) rfl (fun v9 hv9 htv9 hbv9 => ?_)
        have hz10 : σ23c (s + 22) w = σ (s + 22) w := by rw [hF23 (s + 22) w (by omega), eσ5, dk_up_n (show ¬ ((s + 22) = 75 ∧ w = 5) by omega), eσ3, dk_up_n (show ¬ ((s + 22) = 75 ∧ w = 4) by omega)]
        have gi11 : GI σ23c := GI_fr hG (fun k_ j_ h_ => by rw [hF23 k_ j_ (fpw18_769767720 k_ j_ h_), eσ5, dk_up_n (show ¬ (k_ = 75 ∧ j_ = 5) from fun q_ => fpn18_75 q_.1 h_), eσ3, dk_up_n (show ¬ (k_ = 75 ∧ j_ = 4) from fun q_ => fpn18_75 q_.1 h_)])
        have gv9 := (GI.of gi11 hs).2.1 w hw.1 hw.2
        refine dk_iload_n (pc' := 41) hE dX0_weigh_40 rfl rfl rfl ?_
        obtain ⟨v12, hv12⟩ : ∃ z : Int, z = v9 + i := ⟨_, rfl⟩
        refine dk_iadd (pc' := 42) hE dX0_weigh_41 hv12.symm (by omega) rfl ?_
        refine dk_istore (pc' := 44) (ls' := [(4, 75), (4, 45), (0, w), (0, i), (0, v12), (9, 0), (9, 0)]) hE dX0_weigh_42 rfl (by decide) rfl ?_
        refine dk_iconst (pc' := 45) hE dX0_weigh_44 (by decide) rfl ?_
        refine dk_istore (pc' := 47) (ls' := [(4, 75), (4, 45), (0, w), (0, i), (0, v12), (0, 0), (9, 0)]) hE dX0_weigh_45 rfl (by decide) rfl ?_
        have lp47 : ∀ (N_ : Nat) (b : Int) (σ47c : dkS), (2147483648 - b).toNat < N_ → ((∀ k_ j_ : Int, ¬ ((77 ≤ k_ ∧ k_ ≤ 84) ∨ (72 ≤ k_ ∧ k_ ≤ 73)) → σ47c k_ j_ = σ23c k_ j_)) → (0 ≤ b) → dk_PJ E 47 [(4, 75), (4, 45), (0, w), (0, i), (0, v12), (0, b), (9, 0)] [] 190 σ47c := by
          intro N47
          induction N47 with
          | zero => intro b σ47c hm; exact absurd hm (Nat.not_lt_zero _)
          | succ N47 ih47 =>
            intro b σ47c hm47 hF47 hb0
            refine dk_iload (pc' := 49) hE dX0_weigh_47 rfl rfl ?_
            refine dk_aload_n (pc' := 50) hE dX0_weigh_49 rfl rfl rfl ?_
            refine gf_0_5 (pc' := 53) hE fl_X0_47 dX0_weigh_50 is_75 rfl (fun v13 hv13 htv13 hbv13 => ?_)
            have hq13 : v4 = v13 := (show v13 = v4 by rw [hv13, hF47 75 5 (by omega), hF23 75 5 (by omega), eσ5, dk_up_s]).symm
            subst hq13
            clear htv13 hbv13
            refine dk_icmp_ge (tgt := 101) (pc' := 56) hE dX0_weigh_53 (by decide) rfl (fun hc14 => ?_) (fun hc14 => ?_)
            · skip
              obtain ⟨v15, hv15⟩ : ∃ z : Int, z = i + 1 := ⟨_, rfl⟩
              refine dk_iinc (pc' := 104) (ls' := [(4, 75), (4, 45), (0, w), (0, v15), (0, v12), (0, b), (9, 0)]) hE dX0_weigh_101 rfl hv15.symm (by omega) rfl (by decide) rfl ?_
              refine dk_goto (tgt := 23) hE dX0_weigh_104 (by decide) ?_
              refine dk_drop (ls' := [(4, 75), (4, 45), (0, w), (0, v15), (9, 0), (9, 0), (9, 0)]) [true, true, true, true, false, false, false] rfl ?_
              exact ih23 v15 σ47c (by omega) (fun k_ j_ h_ => by rw [hF47 k_ j_ (fun w_ => h_ (w_.elim (fun x0_ => Or.inl (x0_)) (fun y0_ => Or.inr (y0_)))), hF23 k_ j_ (fun w_ => h_ (w_.elim (fun x0_ => Or.inl (x0_)) (fun y0_ => Or.inr (y0_))))]) (by omega)
            · skip
              refine dk_aload_n (pc' := 57) hE dX0_weigh_56 rfl rfl rfl ?_
              refine dk_iload (pc' := 59) hE dX0_weigh_57 rfl rfl ?_
              refine dk_iload (pc' := 61) hE dX0_weigh_59 rfl rfl ?_
              have hz16 : σ47c 45 9 = σ 45 9 := by rw [hF47 45 9 (by omega), hF23 45 9 (by omega), eσ5, dk_up_n (show ¬ (45 = 75 ∧ 9 = 5) by omega), eσ3, dk_up_n (show ¬ (45 = 75 ∧ 9 = 4) by omega)]
              refine dk_cV (pc' := 64) (as := [(0, b), (0, v12)]) hE lk_X0_51 (ct_X6_isFit l G hGd b v12 s) dX0_weigh_61 rfl is_45 rfl (by decide) (Nat.le_of_ble_eq_true rfl) ⟨rfl, (by omega), (by omega), (by omega), (by omega)⟩ rfl (fun r18 σ17 hr18 hor18 => ?_)
              obtain ⟨v19, rfl, hfσ17, hpr18⟩ := hr18
              refine dk_istore (pc' := 66) (ls' := [(4, 75), (4, 45), (0, w), (0, i), (0, v12), (0, b), (0, v19)]) hE dX0_weigh_64 rfl (by decide) rfl ?_
              refine dk_aload_n (pc' := 67) hE dX0_weigh_66 rfl rfl rfl ?_
              refine gf_0_0 (pc' := 70) (w := 76) hE fl_X0_15 dX0_weigh_67 is_75 rfl rfl ?_
              refine dk_iload_n (pc' := 71) hE dX0_weigh_70 rfl rfl rfl ?_
              refine ga_48 (pc' := 72) (w := (77 + i)) hE dX0_weigh_71 is_76 (by omega) (by omega) rfl ?_
              refine dk_iload (pc' := 74) hE dX0_weigh_72 rfl rfl ?_
              refine dk_iload (pc' := 76) hE dX0_weigh_74 rfl rfl ?_
              refine dk_if_eq (tgt := 91) (pc' := 79) hE dX0_weigh_76 (by decide) rfl (fun hc20 => ?_) (fun hc20 => ?_)
              · skip
                refine dk_ldc2 (pc' := 94) hE dX0_weigh_91 cs_X0_59 (by decide) rfl ?_
                refine pa_49 (pc' := 95) hE dX0_weigh_94 (rw_weights (by omega)) (by omega) trivial rfl (fun σ21 eσ21 => ?_)
                obtain ⟨v22, hv22⟩ : ∃ z : Int, z = b + 1 := ⟨_, rfl⟩
                refine dk_iinc (pc' := 98) (ls' := [(4, 75), (4, 45), (0, w), (0, i), (0, v12), (0, v22), (0, v19)]) hE dX0_weigh_95 rfl hv22.symm (by omega) rfl (by decide) rfl ?_
                refine dk_goto (tgt := 47) hE dX0_weigh_98 (by decide) ?_
                refine dk_drop (ls' := [(4, 75), (4, 45), (0, w), (0, i), (0, v12), (0, v22), (9, 0)]) [true, true, true, true, true, true, false] rfl ?_
                have hw23 : 77 ≤ (77 + i) ∧ (77 + i) ≤ 84 := by omega
                exact ih47 v22 σ21 (by omega) (fun k_ j_ h_ => by rw [eσ21, dk_up_n (show ¬ (k_ = (77 + i) ∧ j_ = b) from fun q_ => h_ (Or.inl (dk_wr q_.1 hw23))), hfσ17 k_ j_ (fun w_ => h_ (Or.inr (w_))), hF47 k_ j_ (fun w_ => h_ (w_.elim (fun x0_ => Or.inl (x0_)) (fun y0_ => Or.inr (y0_))))]) (by omega)
              · skip
                refine dk_aload_n (pc' := 80) hE dX0_weigh_79 rfl rfl rfl ?_
                refine dk_iload (pc' := 82) hE dX0_weigh_80 rfl rfl ?_
                refine dk_iload (pc' := 84) hE dX0_weigh_82 rfl rfl ?_
                have hz24 : σ17 45 9 = σ 45 9 := by rw [hfσ17 45 9 (by omega), hF47 45 9 (by omega), hF23 45 9 (by omega), eσ5, dk_up_n (show ¬ (45 = 75 ∧ 9 = 5) by omega), eσ3, dk_up_n (show ¬ (45 = 75 ∧ 9 = 4) by omega)]
                refine dk_cV (pc' := 87) (as := [(0, b), (0, v12)]) hE lk_X0_55 (ct_X6_price l G hGd b v12 s) dX0_weigh_84 rfl is_45 rfl (by decide) (Nat.le_of_ble_eq_true rfl) ⟨rfl, (by omega), (by omega), (by omega), (by omega)⟩ rfl (fun r26 σ25 hr26 hor26 => ?_)
                obtain ⟨v27, rfl, hfσ25, hpr26⟩ := hr26
                have hkv27 := dk_oki (hor26 _ rfl)
                refine dk_i2l (pc' := 88) hE dX0_weigh_87 rfl ?_
                refine dk_goto (tgt := 94) hE dX0_weigh_88 (by decide) ?_
                refine pa_49 (pc' := 95) hE dX0_weigh_94 (rw_weights (by omega)) (by omega) trivial rfl (fun σ28 eσ28 => ?_)
                obtain ⟨v29, hv29⟩ : ∃ z : Int, z = b + 1 := ⟨_, rfl⟩
                refine dk_iinc (pc' := 98) (ls' := [(4, 75), (4, 45), (0, w), (0, i), (0, v12), (0, v29), (0, v19)]) hE dX0_weigh_95 rfl hv29.symm (by omega) rfl (by decide) rfl ?_
                refine dk_goto (tgt := 47) hE dX0_weigh_98 (by decide) ?_
                refine dk_drop (ls' := [(4, 75), (4, 45), (0, w), (0, i), (0, v12), (0, v29), (9, 0)]) [true, true, true, true, true, true, false] rfl ?_
                have hw30 : 77 ≤ (77 + i) ∧ (77 + i) ≤ 84 := by omega
                exact ih47 v29 σ28 (by omega) (fun k_ j_ h_ => by rw [eσ28, dk_up_n (show ¬ (k_ = (77 + i) ∧ j_ = b) from fun q_ => h_ (Or.inl (dk_wr q_.1 hw30))), hfσ25 k_ j_ (fun w_ => h_ (Or.inr (w_))), hfσ17 k_ j_ (fun w_ => h_ (Or.inr (w_))), hF47 k_ j_ (fun w_ => h_ (w_.elim (fun x0_ => Or.inl (x0_)) (fun y0_ => Or.inr (y0_))))]) (by omega)
        exact lp47 _ 0 σ23c (Nat.lt_succ_self _) (fun k_ j_ h_ => rfl) (by omega)
  exact lp23 _ 0 σ5 (Nat.lt_succ_self _) (fun k_ j_ h_ => rfl) (by omega)
set_option maxHeartbeats 4000000 in
set_option maxRecDepth 20000 in
theorem ct_X8_add (l : Launch) (G : dkG) (hGd : dk_Gd G) (w d : Int) : dk_Ct l G dk_Ty yX8_add cX8_add 3 (some .int) 1 190 190 (fun av σ => av = [(4, 88), (0, w), (0, d)] ∧ (0 ≤ w ∧ w ≤ 3) ∧ (0 ≤ d ∧ d ≤ 999)) (fun _ σ r_ σ' => ∃ z : Int, r_ = some (0, z) ∧ (∀ k_ j_ : Int, ¬ ((k_ = 88 ∧ j_ = 6) ∨ (89 ≤ k_ ∧ k_ ≤ 90)) → σ' k_ j_ = σ k_ j_) ∧ (True)) := by
  refine dk_enter hGd (by decide) (fun av σ hpre hok => ?_)
  obtain ⟨rfl, hw, hd⟩ := hpre
  refine ⟨Nat.le_of_ble_eq_true rfl, fun E hE hR _ => ?_⟩
  have hi_w : dk_i32 w := dk_oki (hok _ (by simp))
  have hi_d : dk_i32 d := dk_oki (hok _ (by simp))
  show dk_PJ E 0 [(4, 88), (0, w), (0, d)] [] 190 σ
  refine dk_aload_n (pc' := 1) hE dX8_add_0 rfl rfl rfl ?_
  refine gf_8_6 (pc' := 4) hE fl_X8_34 dX8_add_1 is_88 rfl (fun v1 hv1 htv1 hbv1 => ?_)
  refine dk_bipush (pc' := 6) hE dX8_add_4 (by decide) rfl ?_
  refine dk_icmp_lt (tgt := 11) (pc' := 9) hE dX8_add_6 (by decide) rfl (fun hc2 => ?_) (fun hc2 => ?_)
  · skip
    refine dk_aload_n (pc' := 12) hE dX8_add_11 rfl rfl rfl ?_
    refine gf_8_0 (pc' := 15) (w := 89) hE fl_X8_11 dX8_add_12 is_88 rfl rfl ?_
    refine dk_aload_n (pc' := 16) hE dX8_add_15 rfl rfl rfl ?_
    refine gf_8_6 (pc' := 19) hE fl_X8_34 dX8_add_16 is_88 rfl (fun v3 hv3 htv3 hbv3 => ?_)
    have hq3 : v1 = v3 := (show v3 = v1 by rw [hv3, hv1]).symm
    subst hq3
    clear htv3 hbv3
    refine dk_iload_n (pc' := 20) hE dX8_add_19 rfl rfl rfl ?_
    refine pa_53 (pc' := 21) hE dX8_add_20 is_89 (by omega) (by omega) rfl (fun σ4 eσ4 => ?_)
    refine dk_aload_n (pc' := 22) hE dX8_add_21 rfl rfl rfl ?_
    refine gf_8_1 (pc' := 25) (w := 90) hE fl_X8_15 dX8_add_22 is_88 rfl rfl ?_
    refine dk_aload_n (pc' := 26) hE dX8_add_25 rfl rfl rfl ?_
    refine gf_8_6 (pc' := 29) hE fl_X8_34 dX8_add_26 is_88 rfl (fun v5 hv5 htv5 hbv5 => ?_)
    have hq5 : v1 = v5 := (show v5 = v1 by rw [hv5, eσ4, dk_up_n (show ¬ (88 = 89 ∧ 6 = v1) by omega), hv3]).symm
    subst hq5
    clear htv5 hbv5
    refine dk_iload_n (pc' := 30) hE dX8_add_29 rfl rfl rfl ?_
    refine pa_54 (pc' := 31) hE dX8_add_30 is_90 (by omega) (by omega) rfl (fun σ6 eσ6 => ?_)
    refine dk_aload_n (pc' := 32) hE dX8_add_31 rfl rfl rfl ?_
    refine dk_dup (pc' := 33) hE dX8_add_32 (show (4 : Nat) ≠ 3 by decide) rfl ?_
    refine gf_8_6 (pc' := 36) hE fl_X8_34 dX8_add_33 is_88 rfl (fun v7 hv7 htv7 hbv7 => ?_)
    have hq7 : v1 = v7 := (show v7 = v1 by rw [hv7, eσ6, dk_up_n (show ¬ (88 = 90 ∧ 6 = v1) by omega), hv5]).symm
    subst hq7
    clear htv7 hbv7
    refine dk_iconst (pc' := 37) hE dX8_add_36 (by decide) rfl ?_
    obtain ⟨v8, hv8⟩ : ∃ z : Int, z = v1 + 1 := ⟨_, rfl⟩
    refine dk_iadd (pc' := 38) hE dX8_add_37 hv8.symm (by omega) rfl ?_
    refine pf_8_6 (pc' := 41) hE fl_X8_34 dX8_add_38 is_88 (by omega) rfl (fun σ9 eσ9 => ?_)
    refine dk_aload_n (pc' := 42) hE dX8_add_41 rfl rfl rfl ?_
    refine gf_8_6 (pc' := 45) hE fl_X8_34 dX8_add_42 is_88 rfl (fun v10 hv10 htv10 hbv10 => ?_)
    have hq10 : v8 = v10 := (show v10 = v8 by rw [hv10, eσ9, dk_up_s]).symm
    subst hq10
    clear htv10 hbv10
    refine dk_iconst (pc' := 46) hE dX8_add_45 (by decide) rfl ?_
    obtain ⟨v11, hv11⟩ : ∃ z : Int, z = v8 - 1 := ⟨_, rfl⟩
    refine dk_isub (pc' := 47) hE dX8_add_46 hv11.symm (by omega) rfl ?_
    exact dk_iret (st := []) hE hR dX8_add_47 ⟨_, rfl, (fun k_ j_ h_ => by rw [eσ9, dk_up_n (show ¬ (k_ = 88 ∧ j_ = 6) from fun q_ => h_ (Or.inl (q_))), eσ6, dk_up_n (show ¬ (k_ = 90 ∧ j_ = v1) from fun q_ => h_ (Or.inr (dk_wr (lo := 89) (hi := 90) q_.1 (by decide)))), eσ4, dk_up_n (show ¬ (k_ = 89 ∧ j_ = v1) from fun q_ => h_ (Or.inr (dk_wr (lo := 89) (hi := 90) q_.1 (by decide))))]), trivial⟩
  · skip
    refine dk_iconst (pc' := 10) hE dX8_add_9 (by decide) rfl ?_
    exact dk_iret (st := []) hE hR dX8_add_10 ⟨_, rfl, (fun k_ j_ h_ => rfl), trivial⟩
