set_option maxHeartbeats 4000000 in
set_option maxRecDepth 20000 in
theorem ct_X10_body_r (l : Launch) (G : dkG) (hGd : dk_Gd G) : dk_Ct l G dk_Ty yX10_body cX10_body 1 (some .int) 1 190 190 (fun av σ => av = [(4, 0)]) (fun _ σ r_ σ' => ∃ z : Int, r_ = some (0, z) ∧ (∀ k_ j_ : Int, ¬ ((k_ = 0 ∧ j_ = 12)) → σ' k_ j_ = σ k_ j_) ∧ (z = -1 ∧ σ 0 12 = 10 ∧ σ' 0 12 = σ 0 12 ∨ 0 ≤ z ∧ z = σ 0 12 ∧ σ 0 12 < 10 ∧ σ' 0 12 = z + 1)) := by
  refine dk_enter hGd (by decide) (fun av σ hpre hok => ?_)
  subst hpre
  refine ⟨Nat.le_of_ble_eq_true rfl, fun E hE hR _ => ?_⟩
  show dk_PJ E 0 [(4, 0)] [] 190 σ
  refine dk_aload_n (pc' := 1) hE dX10_body_0 rfl rfl rfl ?_
  refine gf_10_12 (pc' := 4) hE fl_X10_93 dX10_body_1 is_0 rfl (fun v1 hv1 htv1 hbv1 => ?_)
  refine dk_bipush (pc' := 6) hE dX10_body_4 (by decide) rfl ?_
  refine dk_icmp_lt (tgt := 11) (pc' := 9) hE dX10_body_6 (by decide) rfl (fun hc2 => ?_) (fun hc2 => ?_)
  · skip
    refine dk_aload_n (pc' := 12) hE dX10_body_11 rfl rfl rfl ?_
    refine dk_dup (pc' := 13) hE dX10_body_12 (show (4 : Nat) ≠ 3 by decide) rfl ?_
    refine gf_10_12 (pc' := 16) hE fl_X10_93 dX10_body_13 is_0 rfl (fun v3 hv3 htv3 hbv3 => ?_)
    have hq3 : v1 = v3 := (show v3 = v1 by rw [hv3, hv1]).symm
    subst hq3
    clear htv3 hbv3
    refine dk_iconst (pc' := 17) hE dX10_body_16 (by decide) rfl ?_
    obtain ⟨v4, hv4⟩ : ∃ z : Int, z = v1 + 1 := ⟨_, rfl⟩
    refine dk_iadd (pc' := 18) hE dX10_body_17 hv4.symm (by omega) rfl ?_
    refine pf_10_12 (pc' := 21) hE fl_X10_93 dX10_body_18 is_0 (by omega) rfl (fun σ5 eσ5 => ?_)
    refine dk_aload_n (pc' := 22) hE dX10_body_21 rfl rfl rfl ?_
    refine gf_10_12 (pc' := 25) hE fl_X10_93 dX10_body_22 is_0 rfl (fun v6 hv6 htv6 hbv6 => ?_)
    have hq6 : v4 = v6 := (show v6 = v4 by rw [hv6, eσ5, dk_up_s]).symm
    subst hq6
    clear htv6 hbv6
    refine dk_iconst (pc' := 26) hE dX10_body_25 (by decide) rfl ?_
    obtain ⟨v7, hv7⟩ : ∃ z : Int, z = v4 - 1 := ⟨_, rfl⟩
    refine dk_isub (pc' := 27) hE dX10_body_26 hv7.symm (by omega) rfl ?_
    have hz8 : σ5 0 12 = v4 := by rw [hv6]
    have hz9 : σ5 0 12 = v4 := by rw [hv6]
    exact dk_iret (st := []) hE hR dX10_body_27 ⟨_, rfl, (fun k_ j_ h_ => by rw [eσ5, dk_up_n (show ¬ (k_ = 0 ∧ j_ = 12) from fun q_ => h_ (q_))]), by omega⟩
  · skip
    refine dk_iconst (pc' := 10) hE dX10_body_9 (by decide) rfl ?_
    have hz10 : σ 0 12 = v1 := by rw [hv1]
    have hz11 : σ 0 12 = v1 := by rw [hv1]
    have hz12 : σ 0 12 = v1 := by rw [hv1]
    have hz13 : σ 0 12 = v1 := by rw [hv1]
    have hz14 : σ 0 12 = v1 := by rw [hv1]
    have hz15 : σ 0 12 = v1 := by rw [hv1]
    exact dk_iret (st := []) hE hR dX10_body_10 ⟨_, rfl, (fun k_ j_ h_ => rfl), by omega⟩
set_option maxHeartbeats 4000000 in
set_option maxRecDepth 20000 in
theorem ct_X10_later_r (l : Launch) (G : dkG) (hGd : dk_Gd G) (a : Int) : dk_Ct l G dk_Ty yX10_later cX10_later 2 (some .int) 1 190 190 (fun av σ => av = [(4, 0), (0, a)]) (fun _ σ r_ σ' => ∃ z : Int, r_ = some (0, z) ∧ (∀ k_ j_ : Int, ¬ ((k_ = 37 ∧ j_ = 8)) → σ' k_ j_ = σ k_ j_) ∧ (z = -1 ∧ σ' 37 8 = σ 37 8 ∧ (a < 0 ∨ 1000 < a ∨ 100000 < σ 37 8 + a) ∨ 0 ≤ a ∧ a ≤ 1000 ∧ σ 37 8 + a ≤ 100000 ∧ z = σ 37 8 + a ∧ σ' 37 8 = z)) := by
  refine dk_enter hGd (by decide) (fun av σ hpre hok => ?_)
  subst hpre
  refine ⟨Nat.le_of_ble_eq_true rfl, fun E hE hR _ => ?_⟩
  have hi_a : dk_i32 a := dk_oki (hok _ (by simp))
  show dk_PJ E 0 [(4, 0), (0, a)] [] 190 σ
  refine dk_iload_n (pc' := 1) hE dX10_later_0 rfl rfl rfl ?_
  refine dk_if_lt (tgt := 25) (pc' := 4) hE dX10_later_1 (by decide) rfl (fun hc1 => ?_) (fun hc1 => ?_)
  · skip
    refine dk_iconst (pc' := 26) hE dX10_later_25 (by decide) rfl ?_
    exact dk_iret (st := []) hE hR dX10_later_26 ⟨_, rfl, (fun k_ j_ h_ => rfl), by omega⟩
  · skip
    refine dk_iload_n (pc' := 5) hE dX10_later_4 rfl rfl rfl ?_
    refine dk_sipush (pc' := 8) hE dX10_later_5 (by decide) rfl ?_
    refine dk_icmp_gt (tgt := 25) (pc' := 11) hE dX10_later_8 (by decide) rfl (fun hc2 => ?_) (fun hc2 => ?_)
    · skip
      refine dk_iconst (pc' := 26) hE dX10_later_25 (by decide) rfl ?_
      exact dk_iret (st := []) hE hR dX10_later_26 ⟨_, rfl, (fun k_ j_ h_ => rfl), by omega⟩
    · skip
      refine dk_aload_n (pc' := 12) hE dX10_later_11 rfl rfl rfl ?_
      refine gf_10_5 (pc' := 15) (w := 37) hE fl_X10_54 dX10_later_12 is_0 rfl rfl ?_
      refine gf_1_8 (pc' := 18) hE fl_X10_206 dX10_later_15 is_37 rfl (fun v3 hv3 htv3 hbv3 => ?_)
      refine dk_iload_n (pc' := 19) hE dX10_later_18 rfl rfl rfl ?_
      obtain ⟨v4, hv4⟩ : ∃ z : Int, z = v3 + a := ⟨_, rfl⟩
      refine dk_iadd (pc' := 20) hE dX10_later_19 hv4.symm (by omega) rfl ?_
      refine dk_ldc (pc' := 22) hE dX10_later_20 cs_X10_209 (by decide) rfl ?_
      refine dk_icmp_le (tgt := 27) (pc' := 25) hE dX10_later_22 (by decide) rfl (fun hc5 => ?_) (fun hc5 => ?_)
      · skip
        refine dk_aload_n (pc' := 28) hE dX10_later_27 rfl rfl rfl ?_
        refine gf_10_5 (pc' := 31) (w := 37) hE fl_X10_54 dX10_later_28 is_0 rfl rfl ?_
        refine dk_dup (pc' := 32) hE dX10_later_31 (show (4 : Nat) ≠ 3 by decide) rfl ?_
        refine gf_1_8 (pc' := 35) hE fl_X10_206 dX10_later_32 is_37 rfl (fun v6 hv6 htv6 hbv6 => ?_)
        have hq6 : v3 = v6 := (show v6 = v3 by rw [hv6, hv3]).symm
        subst hq6
        clear htv6 hbv6
        refine dk_iload_n (pc' := 36) hE dX10_later_35 rfl rfl rfl ?_
        obtain ⟨v7, hv7⟩ : ∃ z : Int, z = v3 + a := ⟨_, rfl⟩
        refine dk_iadd (pc' := 37) hE dX10_later_36 hv7.symm (by omega) rfl ?_
        refine pf_1_8 (pc' := 40) hE fl_X10_206 dX10_later_37 is_37 (by omega) rfl (fun σ8 eσ8 => ?_)
        refine dk_aload_n (pc' := 41) hE dX10_later_40 rfl rfl rfl ?_
        refine gf_10_5 (pc' := 44) (w := 37) hE fl_X10_54 dX10_later_41 is_0 rfl rfl ?_
        refine gf_1_8 (pc' := 47) hE fl_X10_206 dX10_later_44 is_37 rfl (fun v9 hv9 htv9 hbv9 => ?_)
        have hq9 : v7 = v9 := (show v9 = v7 by rw [hv9, eσ8, dk_up_s]).symm
        subst hq9
        clear htv9 hbv9
        have hz10 : σ8 37 8 = v7 := by rw [hv9]
        have hz11 : σ8 37 8 = v7 := by rw [hv9]
        exact dk_iret (st := []) hE hR dX10_later_47 ⟨_, rfl, (fun k_ j_ h_ => by rw [eσ8, dk_up_n (show ¬ (k_ = 37 ∧ j_ = 8) from fun q_ => h_ (q_))]), by omega⟩
      · skip
        refine dk_iconst (pc' := 26) hE dX10_later_25 (by decide) rfl ?_
        have hz12 : σ 37 8 = v3 := by rw [hv3]
        have hz13 : σ 37 8 = v3 := by rw [hv3]
        have hz14 : σ 37 8 = v3 := by rw [hv3]
        have hz15 : σ 37 8 = v3 := by rw [hv3]
        have hz16 : σ 37 8 = v3 := by rw [hv3]
        have hz17 : σ 37 8 = v3 := by rw [hv3]
        exact dk_iret (st := []) hE hR dX10_later_26 ⟨_, rfl, (fun k_ j_ h_ => rfl), by omega⟩
set_option maxHeartbeats 4000000 in
set_option maxRecDepth 20000 in
theorem ct_X11_body_r (l : Launch) (G : dkG) (hGd : dk_Gd G) : dk_Ct l G dk_Ty yX11_body cX11_body 1 (some .int) 1 190 190 (fun av σ => av = [(4, 141)]) (fun _ σ r_ σ' => ∃ z : Int, r_ = some (0, z) ∧ (∀ k_ j_ : Int, ¬ ((k_ = 141 ∧ j_ = 52)) → σ' k_ j_ = σ k_ j_) ∧ (z = -1 ∧ σ 141 52 = 10 ∧ σ' 141 52 = σ 141 52 ∨ 0 ≤ z ∧ z = σ 141 52 ∧ σ 141 52 < 10 ∧ σ' 141 52 = z + 1)) := by
  refine dk_enter hGd (by decide) (fun av σ hpre hok => ?_)
  subst hpre
  refine ⟨Nat.le_of_ble_eq_true rfl, fun E hE hR _ => ?_⟩
  show dk_PJ E 0 [(4, 141)] [] 190 σ
  refine dk_aload_n (pc' := 1) hE dX11_body_0 rfl rfl rfl ?_
  refine gf_11_52 (pc' := 4) hE fl_X11_416 dX11_body_1 is_141 rfl (fun v1 hv1 htv1 hbv1 => ?_)
  refine dk_bipush (pc' := 6) hE dX11_body_4 (by decide) rfl ?_
  refine dk_icmp_ne (tgt := 11) (pc' := 9) hE dX11_body_6 (by decide) rfl (fun hc2 => ?_) (fun hc2 => ?_)
  · skip
    refine dk_aload_n (pc' := 12) hE dX11_body_11 rfl rfl rfl ?_
    refine dk_dup (pc' := 13) hE dX11_body_12 (show (4 : Nat) ≠ 3 by decide) rfl ?_
    refine gf_11_52 (pc' := 16) hE fl_X11_416 dX11_body_13 is_141 rfl (fun v3 hv3 htv3 hbv3 => ?_)
    have hq3 : v1 = v3 := (show v3 = v1 by rw [hv3, hv1]).symm
    subst hq3
    clear htv3 hbv3
    refine dk_iconst (pc' := 17) hE dX11_body_16 (by decide) rfl ?_
    obtain ⟨v4, hv4⟩ : ∃ z : Int, z = v1 + 1 := ⟨_, rfl⟩
    refine dk_iadd (pc' := 18) hE dX11_body_17 hv4.symm (by omega) rfl ?_
    refine pf_11_52 (pc' := 21) hE fl_X11_416 dX11_body_18 is_141 (by omega) rfl (fun σ5 eσ5 => ?_)
    refine dk_aload_n (pc' := 22) hE dX11_body_21 rfl rfl rfl ?_
    refine gf_11_52 (pc' := 25) hE fl_X11_416 dX11_body_22 is_141 rfl (fun v6 hv6 htv6 hbv6 => ?_)
    have hq6 : v4 = v6 := (show v6 = v4 by rw [hv6, eσ5, dk_up_s]).symm
    subst hq6
    clear htv6 hbv6
    refine dk_iconst (pc' := 26) hE dX11_body_25 (by decide) rfl ?_
    obtain ⟨v7, hv7⟩ : ∃ z : Int, z = v4 - 1 := ⟨_, rfl⟩
    refine dk_isub (pc' := 27) hE dX11_body_26 hv7.symm (by omega) rfl ?_
    have hz8 : σ5 141 52 = v4 := by rw [hv6]
    have hz9 : σ5 141 52 = v4 := by rw [hv6]
    exact dk_iret (st := []) hE hR dX11_body_27 ⟨_, rfl, (fun k_ j_ h_ => by rw [eσ5, dk_up_n (show ¬ (k_ = 141 ∧ j_ = 52) from fun q_ => h_ (q_))]), by omega⟩
  · skip
    refine dk_iconst (pc' := 10) hE dX11_body_9 (by decide) rfl ?_
    have hz10 : σ 141 52 = v1 := by rw [hv1]
    have hz11 : σ 141 52 = v1 := by rw [hv1]
    have hz12 : σ 141 52 = v1 := by rw [hv1]
    have hz13 : σ 141 52 = v1 := by rw [hv1]
    have hz14 : σ 141 52 = v1 := by rw [hv1]
    have hz15 : σ 141 52 = v1 := by rw [hv1]
    exact dk_iret (st := []) hE hR dX11_body_10 ⟨_, rfl, (fun k_ j_ h_ => rfl), by omega⟩
set_option maxHeartbeats 4000000 in
set_option maxRecDepth 20000 in
theorem ct_X11_later_r (l : Launch) (G : dkG) (hGd : dk_Gd G) (a : Int) : dk_Ct l G dk_Ty yX11_later cX11_later 2 (some .int) 1 190 190 (fun av σ => av = [(4, 141), (0, a)]) (fun _ σ r_ σ' => ∃ z : Int, r_ = some (0, z) ∧ (∀ k_ j_ : Int, ¬ ((k_ = 141 ∧ j_ = 54)) → σ' k_ j_ = σ k_ j_) ∧ (z = -1 ∧ σ' 141 54 = σ 141 54 ∧ (a < 0 ∨ 1000 < a ∨ 100000 < σ 141 54 + a) ∨ 0 ≤ a ∧ a ≤ 1000 ∧ σ 141 54 + a ≤ 100000 ∧ z = σ 141 54 + a ∧ σ' 141 54 = z)) := by
  refine dk_enter hGd (by decide) (fun av σ hpre hok => ?_)
  subst hpre
  refine ⟨Nat.le_of_ble_eq_true rfl, fun E hE hR _ => ?_⟩
  have hi_a : dk_i32 a := dk_oki (hok _ (by simp))
  show dk_PJ E 0 [(4, 141), (0, a)] [] 190 σ
  refine dk_iload_n (pc' := 1) hE dX11_later_0 rfl rfl rfl ?_
  refine dk_if_lt (tgt := 23) (pc' := 4) hE dX11_later_1 (by decide) rfl (fun hc1 => ?_) (fun hc1 => ?_)
  · skip
    refine dk_iconst (pc' := 24) hE dX11_later_23 (by decide) rfl ?_
    exact dk_iret (st := []) hE hR dX11_later_24 ⟨_, rfl, (fun k_ j_ h_ => rfl), by omega⟩
  · skip
    refine dk_iload_n (pc' := 5) hE dX11_later_4 rfl rfl rfl ?_
    refine dk_sipush (pc' := 8) hE dX11_later_5 (by decide) rfl ?_
    refine dk_icmp_gt (tgt := 23) (pc' := 11) hE dX11_later_8 (by decide) rfl (fun hc2 => ?_) (fun hc2 => ?_)
    · skip
      refine dk_iconst (pc' := 24) hE dX11_later_23 (by decide) rfl ?_
      exact dk_iret (st := []) hE hR dX11_later_24 ⟨_, rfl, (fun k_ j_ h_ => rfl), by omega⟩
    · skip
      refine dk_aload_n (pc' := 12) hE dX11_later_11 rfl rfl rfl ?_
      refine gf_11_54 (pc' := 15) hE fl_X11_419 dX11_later_12 is_141 rfl (fun v3 hv3 htv3 hbv3 => ?_)
      refine dk_iload_n (pc' := 16) hE dX11_later_15 rfl rfl rfl ?_
      obtain ⟨v4, hv4⟩ : ∃ z : Int, z = v3 + a := ⟨_, rfl⟩
      refine dk_iadd (pc' := 17) hE dX11_later_16 hv4.symm (by omega) rfl ?_
      refine dk_ldcw (pc' := 20) hE dX11_later_17 cs_X11_429 (by decide) rfl ?_
      refine dk_icmp_le (tgt := 25) (pc' := 23) hE dX11_later_20 (by decide) rfl (fun hc5 => ?_) (fun hc5 => ?_)
      · skip
        refine dk_aload_n (pc' := 26) hE dX11_later_25 rfl rfl rfl ?_
        refine dk_dup (pc' := 27) hE dX11_later_26 (show (4 : Nat) ≠ 3 by decide) rfl ?_
        refine gf_11_54 (pc' := 30) hE fl_X11_419 dX11_later_27 is_141 rfl (fun v6 hv6 htv6 hbv6 => ?_)
        have hq6 : v3 = v6 := (show v6 = v3 by rw [hv6, hv3]).symm
        subst hq6
        clear htv6 hbv6
        refine dk_iload_n (pc' := 31) hE dX11_later_30 rfl rfl rfl ?_
        obtain ⟨v7, hv7⟩ : ∃ z : Int, z = v3 + a := ⟨_, rfl⟩
        refine dk_iadd (pc' := 32) hE dX11_later_31 hv7.symm (by omega) rfl ?_
        refine pf_11_54 (pc' := 35) hE fl_X11_419 dX11_later_32 is_141 (by omega) rfl (fun σ8 eσ8 => ?_)
        refine dk_aload_n (pc' := 36) hE dX11_later_35 rfl rfl rfl ?_
        refine gf_11_54 (pc' := 39) hE fl_X11_419 dX11_later_36 is_141 rfl (fun v9 hv9 htv9 hbv9 => ?_)
        have hq9 : v7 = v9 := (show v9 = v7 by rw [hv9, eσ8, dk_up_s]).symm
        subst hq9
        clear htv9 hbv9
        have hz10 : σ8 141 54 = v7 := by rw [hv9]
        have hz11 : σ8 141 54 = v7 := by rw [hv9]
        exact dk_iret (st := []) hE hR dX11_later_39 ⟨_, rfl, (fun k_ j_ h_ => by rw [eσ8, dk_up_n (show ¬ (k_ = 141 ∧ j_ = 54) from fun q_ => h_ (q_))]), by omega⟩
      · skip
        refine dk_iconst (pc' := 24) hE dX11_later_23 (by decide) rfl ?_
        have hz12 : σ 141 54 = v3 := by rw [hv3]
        have hz13 : σ 141 54 = v3 := by rw [hv3]
        have hz14 : σ 141 54 = v3 := by rw [hv3]
        have hz15 : σ 141 54 = v3 := by rw [hv3]
        have hz16 : σ 141 54 = v3 := by rw [hv3]
        have hz17 : σ 141 54 = v3 := by rw [hv3]
        exact dk_iret (st := []) hE hR dX11_later_24 ⟨_, rfl, (fun k_ j_ h_ => rfl), by omega⟩
